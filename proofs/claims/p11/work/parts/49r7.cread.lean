set_option maxHeartbeats 4000000 in
set_option maxRecDepth 100000 in
theorem x_X7_isGlued (l : Launch) (D : va_G) (cy : Nat → ClassId) (sz : Nat) (ws : va_W) (k0 b : Nat) (be : Option Nat) (fn fk ff : Int32) (fx : Bool) (fc : Int32) (fv : Int64) (he0 : ws[k0]? = some (b, .inr (6, [va_rf be, .int fn, .int fk, .int ff, .int (bI fx), .int fc, .long fv]))) : Met l yX7_isGlued wsX7_isGlued ({ frames := 1, cells := 0, slots := 0, locals := 21 }) (va_Pc [.ref b] (PW D cy sz ws)) (vp_Si (fun r => r = bI (g_under fk 1))) 0 0 (fun _ => False) := by
  refine Met.ofW (cc := cX7_isGlued) (maxL := 1) (ret := (some .boolean)) (by decide) rfl ?_
  intro p e s m args below meth c s₁ B hml hv
  obtain ⟨rfl, rfl, hP, hK, hN, hD0⟩ := hv
  have hx := B.exec
  have hb := B.bytes
  have hr := B.returns
  have hts := atoms_spec (ws := wsX7_isGlued) B.pre
  have hown : s.vm.findClass RX7 = some m.cls := findClass_of_methodNamed B.named
  have hlocks := B.notSynchronized
  have hw0 := hts (.fieldLink RX7 19 "ParquetLayer$Stone" "kind" "I") (by decide +kernel)
  have hw1 := hts (.initialized RX9) (by decide +kernel)
  have hw2 := hts (.static yX9_isUnder) (by decide +kernel)
  have hi7 := ihX7_isGlued_7
  have hD := hD0
  have hl := lv_entry ([.ref b]) (n := 1) (Nat.le_of_ble_eq_true rfl)
  rw [lg_entry_eq]
  generalize (lg_sl ([.ref b]) ++ List.replicate (1 - (lg_sl ([.ref b])).length) Slot.unset).toArray = ls at hl ⊢
  have hl : lv_has ls 1 [(0, .ref b)] := hl
  refine lv_aload_n hx hb dX7_isGlued_0 rfl (lv_at hl 0 rfl) ?_
  refine va_get (D := D) (ci := 6) (v := .int fk) (C := RX7) (T := TX7) (N := 7) hx hb hts hi7 hown hK hP k0 he0 rfl 2 (by decide) hw0 (fun _ h9 => h9) rfl dX7_isGlued_1 ?_
  refine lv_iconst (v := 1) hx hb dX7_isGlued_4 (by decide) ?_
  refine kSN_i (As := [.int fk, .int 1]) (rest := []) ⟨hx, hb, hml, hown, hts⟩ (c_X9_isUnder l fk 1) ⟨va_cnB 2 hts gX7_isGlued_X9_isUnder_n42 rfl rfl rfl hN.2.2.2.2.1 hw1 (by decide +kernel) ⟨Nat.le_of_ble_eq_true rfl, Nat.le_of_ble_eq_true rfl⟩, hw2, trivial⟩ rfl hl.1 rfl (Nat.le_of_ble_eq_true rfl) dX7_isGlued_5 ⟨Nat.le_of_ble_eq_true rfl, Nat.le_of_ble_eq_true rfl⟩ ?_
  exact pret_z hx hb hr hlocks rfl dX7_isGlued_8
set_option maxHeartbeats 4000000 in
set_option maxRecDepth 100000 in
theorem x_X9_isPlace (l : Launch) (D : va_G) (cy : Nat → ClassId) (a : Nat → Nat) (sz : Nat) (J : Nat → Int64) (I : Nat → Int32) (O : Nat → Option Nat) (R : Nat → Nat → Int32) (RO : Nat → Nat → Option Nat) (LL : va_W) (Y : va_W) (x0 : Int32) (x1 : Bool) : Met l yX9_isPlace wsX9_isPlace ({ frames := 1, cells := 0, slots := 0, locals := 21 }) (va_Pc [.ref (a 0), .int x0, .int (bI x1)] (PW D cy sz (CT cy a J I O R RO (LL ++ Y)))) (vp_Si (fun r => r = bI (g_isPl (J 6) x0 x1))) 0 0 (fun _ => False) := by
  refine Met.ofW (cc := cX9_isPlace) (maxL := 5) (ret := (some .boolean)) (by decide) rfl ?_
  intro p e s m args below meth c s₁ B hml hv
  obtain ⟨rfl, rfl, hP, hK, hN, hD0⟩ := hv
  have hx := B.exec
  have hb := B.bytes
  have hr := B.returns
  have hts := atoms_spec (ws := wsX9_isPlace) B.pre
  have hown : s.vm.findClass RX9 = some m.cls := findClass_of_methodNamed B.named
  have hlocks := B.notSynchronized
  have hw0 := hts (.fieldLink RX9 48 "ParquetLayer" "fields" "J") (by decide +kernel)
  have hw1 := hts (.constantLong RX9 54 (-1)) (by decide +kernel)
  have hi9 := ihX9_isPlace_9
  have hD := hD0
  have hl := lv_entry ([.ref (a 0), .int x0, .int (bI x1)]) (n := 5) (Nat.le_of_ble_eq_true rfl)
  rw [lg_entry_eq]
  generalize (lg_sl ([.ref (a 0), .int x0, .int (bI x1)]) ++ List.replicate (5 - (lg_sl ([.ref (a 0), .int x0, .int (bI x1)])).length) Slot.unset).toArray = ls at hl ⊢
  have hl : lv_has ls 5 [(0, .ref (a 0)), (1, .int x0), (2, .int (bI x1))] := hl
  refine lv_iload_n hx hb dX9_isPlace_0 rfl (lv_at hl 1 rfl) ?_
  refine lv_iload_n hx hb dX9_isPlace_1 rfl (lv_at hl 2 rfl) ?_
  refine kS_l (As := [.int x0, .int (bI x1)]) (rest := []) ⟨hx, hb, hml, hown, hts⟩ (c_X1_place l x0 x1) (va_cwS 2 hts gX9_isPlace_X1_place rfl rfl rfl (by decide +kernel) ⟨Nat.le_of_ble_eq_true rfl, Nat.le_of_ble_eq_true rfl⟩) rfl hl.1 rfl (Nat.le_of_ble_eq_true rfl) dX9_isPlace_2 ⟨Nat.le_of_ble_eq_true rfl, Nat.le_of_ble_eq_true rfl⟩ ?_
  refine lv_lstore_n (lv' := [(3, .long (g_place x0 x1)), (0, .ref (a 0)), (1, .int x0), (2, .int (bI x1))]) hx hb dX9_isPlace_5 rfl hl (by decide) rfl (fun ls hl => ?_)
  refine lv_lload_n hx hb dX9_isPlace_6 rfl (lv_at hl 0 rfl) ?_
  refine lv_lconst (v := 0) hx hb dX9_isPlace_7 (by decide) ?_
  refine W.lcmp hx hb dX9_isPlace_8 ?_
  refine lv_if_eq (tgt := 31) hx hb dX9_isPlace_9 (by decide) (fun c_1 => ?_) (fun c_1 => ?_)
  · replace c_1 := (lg_cmp_eq _ _).mp c_1
    refine lv_iconst (v := 0) hx hb dX9_isPlace_31 (by decide) ?_
    exact pret_z hx hb hr hlocks (pl_1 c_1) dX9_isPlace_32
  · replace c_1 := fun z => c_1 ((lg_cmp_eq _ _).mpr z)
    refine lv_lload_n hx hb dX9_isPlace_12 rfl (lv_at hl 0 rfl) ?_
    refine lv_aload_n hx hb dX9_isPlace_13 rfl (lv_at hl 1 rfl) ?_
    refine va_get (D := D) (ci := 8) (v := .long (J 6)) (C := RX9) (T := TX9) (N := 11) hx hb hts hi9 hown hK hP 0 rfl rfl 6 (by decide) hw0 (fun _ h9 => h9) rfl dX9_isPlace_14 ?_
    refine lv_ldc2 (v := (-1)) hx hb hown hw1 dX9_isPlace_17 ?_
    refine lv_lxor hx hb dX9_isPlace_20 ?_
    refine lv_land hx hb dX9_isPlace_21 ?_
    refine lv_lconst (v := 0) hx hb dX9_isPlace_22 (by decide) ?_
    refine W.lcmp hx hb dX9_isPlace_23 ?_
    refine lv_if_ne (tgt := 31) hx hb dX9_isPlace_24 (by decide) (fun c_2 => ?_) (fun c_2 => ?_)
    · replace c_2 := fun z => c_2 ((lg_cmp_eq _ _).mpr z)
      refine lv_iconst (v := 0) hx hb dX9_isPlace_31 (by decide) ?_
      exact pret_z hx hb hr hlocks (pl_2 c_2) dX9_isPlace_32
    · replace c_2 := (lg_cmp_eq _ _).mp c_2
      refine lv_iconst (v := 1) hx hb dX9_isPlace_27 (by decide) ?_
      refine lv_goto (tgt := 32) hx hb dX9_isPlace_28 (by decide) ?_
      exact pret_z hx hb hr hlocks (pl_3 c_1 c_2) dX9_isPlace_32
set_option maxHeartbeats 4000000 in
set_option maxRecDepth 100000 in
theorem x_X9_stoneCount (l : Launch) (D : va_G) (cy : Nat → ClassId) (a : Nat → Nat) (sz : Nat) (J : Nat → Int64) (I : Nat → Int32) (O : Nat → Option Nat) (R : Nat → Nat → Int32) (RO : Nat → Nat → Option Nat) (LL : va_W) (Y : va_W)  (fl : Int64) (S : List Int32) (P : List PE) (hRA : RCf Y (J 6) (O 7) (I 9) (RO 2) fl S P) (hM : CI a Y I O RO) : Met l yX9_stoneCount wsX9_stoneCount ({ frames := 0, cells := 0, slots := 0, locals := 0 }) (va_Pc [.ref (a 0)] (PW D cy sz (CT cy a J I O R RO (LL ++ Y)))) (vp_Si (fun r => r = nI S.length)) 0 0 (fun _ => False) := by
  refine Met.ofW (cc := cX9_stoneCount) (maxL := 1) (ret := (some .int)) (by decide) rfl ?_
  intro p e s m args below meth c s₁ B hml hv
  obtain ⟨rfl, rfl, hP, hK, hN, hD0⟩ := hv
  have hx := B.exec
  have hb := B.bytes
  have hr := B.returns
  have hts := atoms_spec (ws := wsX9_stoneCount) B.pre
  have hown : s.vm.findClass RX9 = some m.cls := findClass_of_methodNamed B.named
  have hlocks := B.notSynchronized
  have hw0 := hts (.fieldLink RX9 106 "ParquetLayer" "latest" "LParquetLayer$Stone;") (by decide +kernel)
  have hw1 := hts (.fieldLink RX9 152 "ParquetLayer$Stone" "number" "I") (by decide +kernel)
  have hi7 := ihX9_stoneCount_7
  have hi9 := ihX9_stoneCount_9
  have hD := hD0
  have hl := lv_entry ([.ref (a 0)]) (n := 1) (Nat.le_of_ble_eq_true rfl)
  rw [lg_entry_eq]
  generalize (lg_sl ([.ref (a 0)]) ++ List.replicate (1 - (lg_sl ([.ref (a 0)])).length) Slot.unset).toArray = ls at hl ⊢
  have hl : lv_has ls 1 [(0, .ref (a 0))] := hl
  have hRO0 := hM.2.2.2.2.2.2.2.2.1
  have hRO1 := hM.2.2.2.2.2.2.2.2.2.1
  have hRO2 := hM.2.2.2.2.2.2.2.2.2.2.1
  have hRO3 := hM.2.2.2.2.2.2.2.2.2.2.2
  have hP : va_P D vwCl (CT cy a J I (va_up O 7 (O 7)) R RO (LL ++ Y)) s.heap := hP
  have hD : va_D (fun _ => True) (CT cy a J I (va_up O 7 (O 7)) R RO (LL ++ Y)) := hD
  refine lv_aload_n hx hb dX9_stoneCount_0 rfl (lv_at hl 0 rfl) ?_
  refine va_get (D := D) (ci := 8) (v := va_rf (O 7)) (C := RX9) (T := TX9) (N := 11) hx hb hts hi9 hown hK hP 0 rfl rfl 7 (by decide) hw0 (fun _ h9 => h9) rfl dX9_stoneCount_1 ?_
  refine lv_ifnonnullO (tgt := 11) hx hb dX9_stoneCount_4 (by decide) (fun c_1 => ?_) (fun c_1 => ?_)
  · obtain ⟨v_5, T_6, b_2, o_7, v_8, hS_9, e_4, hm_3, hp_10, hc_11⟩ := chR_some hRA.2.1.1 c_1
    rw [e_4] at hP hD
    have hi_12 : chO Y (some b_2) := by rw [← e_4]; exact hM.2.1
    refine lv_aload_n hx hb dX9_stoneCount_11 rfl (lv_at hl 0 rfl) ?_
    refine va_get (D := D) (ci := 8) (v := .ref b_2) (C := RX9) (T := TX9) (N := 11) hx hb hts hi9 hown hK hP 0 rfl rfl 7 (by decide) hw0 (fun _ h9 => h9) rfl dX9_stoneCount_12 ?_
    obtain ⟨k_13, hk_14⟩ : ∃ k : Nat, (CT cy a J I (va_up O 7 (some b_2)) R RO (LL ++ Y))[k]? = some (b_2, .inr (6, [va_rf o_7, .int (nI T_6.length), .int (sK v_5), .int (sF v_5), .int (bI (m_acr v_5)), .int v_8, .long (sP v_5)])) := pixT hm_3
    refine va_get (D := D) (ci := 6) (v := .int (nI T_6.length)) (C := RX7) (T := TX7) (N := 7) hx hb hts hi7 hown hK hP k_13 hk_14 rfl 1 (by decide) hw1 (fun _ h9 => h9) rfl dX9_stoneCount_15 ?_
    refine lv_iconst (v := 1) hx hb dX9_stoneCount_18 (by decide) ?_
    refine lv_iadd hx hb dX9_stoneCount_19 ?_
    exact pret_i hx hb hr hlocks (by rw [hS_9]; exact nI_1 _) dX9_stoneCount_20
  · rw [c_1] at hP hD
    have hi_15 : chO Y none := by rw [← c_1]; exact hM.2.1
    refine lv_iconst (v := 0) hx hb dX9_stoneCount_7 (by decide) ?_
    refine lv_goto (tgt := 20) hx hb dX9_stoneCount_8 (by decide) ?_
    exact pret_i hx hb hr hlocks (by rw [chR_nil hRA.2.1.1 c_1]; rfl) dX9_stoneCount_20
set_option maxHeartbeats 4000000 in
set_option maxRecDepth 100000 in
theorem x_X9_gluedFields (l : Launch) (D : va_G) (cy : Nat → ClassId) (a : Nat → Nat) (sz : Nat) (J : Nat → Int64) (I : Nat → Int32) (O : Nat → Option Nat) (R : Nat → Nat → Int32) (RO : Nat → Nat → Option Nat) (LL : va_W) (Y : va_W)  (fl : Int64) (S : List Int32) (P : List PE) (hRA : RCf Y (J 6) (O 7) (I 9) (RO 2) fl S P) (hM : CI a Y I O RO) : Met l yX9_gluedFields wsX9_gluedFields ({ frames := 2, cells := 0, slots := 0, locals := 41 }) (va_Pc [.ref (a 0)] (PW D cy sz (CT cy a J I O R RO (LL ++ Y)))) (vp_Sl (fun r => r = gOr 0 S)) 0 0 (fun _ => False) := by
  refine Met.ofW (cc := cX9_gluedFields) (maxL := 4) (ret := (some .long)) (by decide) rfl ?_
  intro p e s m args below meth c s₁ B hml hv
  obtain ⟨rfl, rfl, hP, hK, hN, hD0⟩ := hv
  have hx := B.exec
  have hb := B.bytes
  have hr := B.returns
  have hts := atoms_spec (ws := wsX9_gluedFields) B.pre
  have hown : s.vm.findClass RX9 = some m.cls := findClass_of_methodNamed B.named
  have hlocks := B.notSynchronized
  have hw0 := hts (.fieldLink RX9 138 "ParquetLayer$Stone" "below" "LParquetLayer$Stone;") (by decide +kernel)
  have hw1 := hts (.fieldLink RX9 116 "ParquetLayer$Stone" "cover" "J") (by decide +kernel)
  have hw2 := hts (.fieldLink RX9 106 "ParquetLayer" "latest" "LParquetLayer$Stone;") (by decide +kernel)
  have hi7 := ihX9_gluedFields_7
  have hi9 := ihX9_gluedFields_9
  have hD := hD0
  have hl := lv_entry ([.ref (a 0)]) (n := 4) (Nat.le_of_ble_eq_true rfl)
  rw [lg_entry_eq]
  generalize (lg_sl ([.ref (a 0)]) ++ List.replicate (4 - (lg_sl ([.ref (a 0)])).length) Slot.unset).toArray = ls at hl ⊢
  have hl : lv_has ls 4 [(0, .ref (a 0))] := hl
  have hRO0 := hM.2.2.2.2.2.2.2.2.1
  have hRO1 := hM.2.2.2.2.2.2.2.2.2.1
  have hRO2 := hM.2.2.2.2.2.2.2.2.2.2.1
  have hRO3 := hM.2.2.2.2.2.2.2.2.2.2.2
  have lp7 : ∀ (n7 : Nat), ∀ (v1_7 : Int64) (o9 : Option Nat) (S9 : List Int32), (chR Y S9 o9) → (gOr 0 S = gOr v1_7 S9) → S9.length < n7 → ∀ (ls : Array Slot), lv_has ls 4 [(0, .ref (a 0)), (1, .long v1_7), (3, va_rf o9)] → W p l e (headSpec wsX9_gluedFields ({ frames := 2, cells := 0, slots := 0, locals := 41 })).room s m ([.ref (a 0)] : List Value).toArray below meth c s.heap [] 0 0 (MQ below (vp_Sl (fun r => r = gOr 0 S)) ([.ref (a 0)] : List Value).toArray s 0 0 (fun _ => False)) (F0 m 7 ls []) := by
    intro n7
    induction n7 with
    | zero => intro v1_7 o9 S9 hch_7 hgo hn; exact absurd hn (Nat.not_lt_zero _)
    | succ n7 ih7 =>
      intro v1_7 o9 S9 hch_7 hgo hn7 ls hl
      refine lv_aload_nO hx hb dX9_gluedFields_7 rfl (lv_at hl 2 rfl) ?_
      refine lv_ifnullO (tgt := 33) hx hb dX9_gluedFields_8 (by decide) (fun c_1 => ?_) (fun c_1 => ?_)
      · subst c_1
        refine lv_lload_n hx hb dX9_gluedFields_33 rfl (lv_at hl 1 rfl) ?_
        exact pret_l hx hb hr hlocks (by rw [hgo, chR_nil hch_7 rfl]; rfl) dX9_gluedFields_34
      · obtain ⟨v_5, T_6, b_2, o_7, v_8, hS_9, e_4, hm_3, hp_10, hc_11⟩ := chR_some hch_7 c_1
        subst hS_9
        subst e_4
        refine lv_aload_n hx hb dX9_gluedFields_11 rfl (lv_at hl 2 rfl) ?_
        obtain ⟨k_12, hk_13⟩ : ∃ k : Nat, (CT cy a J I O R RO (LL ++ Y))[k]? = some (b_2, .inr (6, [va_rf o_7, .int (nI T_6.length), .int (sK v_5), .int (sF v_5), .int (bI (m_acr v_5)), .int v_8, .long (sP v_5)])) := pixT hm_3
        refine kR_i (As := []) (rest := []) (q0 := k_12) ⟨hx, hb, hml, hown, hts⟩ (x_X7_isGlued l D cy _ (CT cy a J I O R RO (LL ++ Y)) k_12 b_2 o_7 (nI T_6.length) (sK v_5) (sF v_5) (m_acr v_5) v_8 (sP v_5) hk_13) (cwV 0 hts gX9_gluedFields_X7_isGlued rfl rfl rfl (by decide +kernel) ⟨Nat.le_of_ble_eq_true rfl, Nat.le_of_ble_eq_true rfl⟩) hK hN hP hD hk_13 rfl rfl hl.1 rfl (Nat.le_of_ble_eq_true rfl) dX9_gluedFields_12 ⟨Nat.le_of_ble_eq_true rfl, Nat.le_of_ble_eq_true rfl⟩ ?_
        refine lv_if_eq (tgt := 25) hx hb dX9_gluedFields_15 (by decide) (fun c_14 => ?_) (fun c_14 => ?_)
        · replace c_14 := bI_f c_14
          refine lv_aload_n hx hb dX9_gluedFields_25 rfl (lv_at hl 2 rfl) ?_
          obtain ⟨k_15, hk_16⟩ : ∃ k : Nat, (CT cy a J I O R RO (LL ++ Y))[k]? = some (b_2, .inr (6, [va_rf o_7, .int (nI T_6.length), .int (sK v_5), .int (sF v_5), .int (bI (m_acr v_5)), .int v_8, .long (sP v_5)])) := pixT hm_3
          refine va_get (D := D) (ci := 6) (v := va_rf o_7) (C := RX7) (T := TX7) (N := 7) hx hb hts hi7 hown hK hP k_15 hk_16 rfl 0 (by decide) hw0 (fun _ h9 => h9) rfl dX9_gluedFields_26 ?_
          refine lv_astore_nO (lv' := [(3, va_rf o_7), (0, .ref (a 0)), (1, .long v1_7)]) hx hb dX9_gluedFields_29 rfl hl (by decide) rfl (fun ls hl => ?_)
          refine lv_goto (tgt := 7) hx hb dX9_gluedFields_30 (by decide) ?_
          exact ih7 v1_7 o_7 T_6 hc_11 (hgo.trans (gOr_n c_14)) (Nat.lt_of_succ_lt_succ hn7) ls (lv_sub hl [1, 2, 0] rfl)
        · replace c_14 := bI_t c_14
          refine lv_lload_n hx hb dX9_gluedFields_18 rfl (lv_at hl 1 rfl) ?_
          refine lv_aload_n hx hb dX9_gluedFields_19 rfl (lv_at hl 2 rfl) ?_
          obtain ⟨k_17, hk_18⟩ : ∃ k : Nat, (CT cy a J I O R RO (LL ++ Y))[k]? = some (b_2, .inr (6, [va_rf o_7, .int (nI T_6.length), .int (sK v_5), .int (sF v_5), .int (bI (m_acr v_5)), .int v_8, .long (sP v_5)])) := pixT hm_3
          refine va_get (D := D) (ci := 6) (v := .long (sP v_5)) (C := RX7) (T := TX7) (N := 7) hx hb hts hi7 hown hK hP k_17 hk_18 rfl 6 (by decide) hw1 (fun _ h9 => h9) rfl dX9_gluedFields_20 ?_
          refine lv_lor hx hb dX9_gluedFields_23 ?_
          refine lv_lstore_n (lv' := [(1, .long (v1_7 ||| (sP v_5))), (0, .ref (a 0)), (3, .ref b_2)]) hx hb dX9_gluedFields_24 rfl hl (by decide) rfl (fun ls hl => ?_)
          refine lv_aload_n hx hb dX9_gluedFields_25 rfl (lv_at hl 2 rfl) ?_
          obtain ⟨k_19, hk_20⟩ : ∃ k : Nat, (CT cy a J I O R RO (LL ++ Y))[k]? = some (b_2, .inr (6, [va_rf o_7, .int (nI T_6.length), .int (sK v_5), .int (sF v_5), .int (bI (m_acr v_5)), .int v_8, .long (sP v_5)])) := pixT hm_3
          refine va_get (D := D) (ci := 6) (v := va_rf o_7) (C := RX7) (T := TX7) (N := 7) hx hb hts hi7 hown hK hP k_19 hk_20 rfl 0 (by decide) hw0 (fun _ h9 => h9) rfl dX9_gluedFields_26 ?_
          refine lv_astore_nO (lv' := [(3, va_rf o_7), (1, .long (v1_7 ||| (sP v_5))), (0, .ref (a 0))]) hx hb dX9_gluedFields_29 rfl hl (by decide) rfl (fun ls hl => ?_)
          refine lv_goto (tgt := 7) hx hb dX9_gluedFields_30 (by decide) ?_
          exact ih7 (v1_7 ||| (sP v_5)) o_7 T_6 hc_11 (hgo.trans (gOr_y c_14)) (Nat.lt_of_succ_lt_succ hn7) ls (lv_sub hl [2, 1, 0] rfl)
  refine lv_lconst (v := 0) hx hb dX9_gluedFields_0 (by decide) ?_
  refine lv_lstore_n (lv' := [(1, .long 0), (0, .ref (a 0))]) hx hb dX9_gluedFields_1 rfl hl (by decide) rfl (fun ls hl => ?_)
  refine lv_aload_n hx hb dX9_gluedFields_2 rfl (lv_at hl 1 rfl) ?_
  refine va_get (D := D) (ci := 8) (v := va_rf (O 7)) (C := RX9) (T := TX9) (N := 11) hx hb hts hi9 hown hK hP 0 rfl rfl 7 (by decide) hw2 (fun _ h9 => h9) rfl dX9_gluedFields_3 ?_
  refine lv_astore_nO (lv' := [(3, va_rf (O 7)), (1, .long 0), (0, .ref (a 0))]) hx hb dX9_gluedFields_6 rfl hl (by decide) rfl (fun ls hl => ?_)
  exact lp7 _ (0 : Int64) (O 7) S hRA.2.1.1 rfl (Nat.lt_succ_self _) ls (lv_sub hl [2, 1, 0] rfl)
set_option maxHeartbeats 4000000 in
set_option maxRecDepth 100000 in
theorem x_X9_stoneOf (l : Launch) (D : va_G) (cy : Nat → ClassId) (a : Nat → Nat) (sz : Nat) (J : Nat → Int64) (I : Nat → Int32) (O : Nat → Option Nat) (R : Nat → Nat → Int32) (RO : Nat → Nat → Option Nat) (LL : va_W) (Y : va_W) (x0 : Int32) (fl : Int64) (S : List Int32) (P : List PE) (hRA : RCf Y (J 6) (O 7) (I 9) (RO 2) fl S P) (hM : CI a Y I O RO) : Met l yX9_stoneOf wsX9_stoneOf ({ frames := 0, cells := 0, slots := 0, locals := 0 }) (va_Pc [.ref (a 0), .int x0] (PW D cy sz (CT cy a J I O R RO (LL ++ Y)))) (va_Sq (fun r => stF Y S x0 r)) 0 0 (fun _ => False) := by
  refine Met.ofW (cc := cX9_stoneOf) (maxL := 3) (ret := (some (.object "ParquetLayer$Stone"))) (by decide) rfl ?_
  intro p e s m args below meth c s₁ B hml hv
  obtain ⟨rfl, rfl, hP, hK, hN, hD0⟩ := hv
  have hx := B.exec
  have hb := B.bytes
  have hr := B.returns
  have hts := atoms_spec (ws := wsX9_stoneOf) B.pre
  have hown : s.vm.findClass RX9 = some m.cls := findClass_of_methodNamed B.named
  have hlocks := B.notSynchronized
  have hw0 := hts (.fieldLink RX9 152 "ParquetLayer$Stone" "number" "I") (by decide +kernel)
  have hw1 := hts (.fieldLink RX9 138 "ParquetLayer$Stone" "below" "LParquetLayer$Stone;") (by decide +kernel)
  have hw2 := hts (.fieldLink RX9 106 "ParquetLayer" "latest" "LParquetLayer$Stone;") (by decide +kernel)
  have hi7 := ihX9_stoneOf_7
  have hi9 := ihX9_stoneOf_9
  have hD := hD0
  have hl := lv_entry ([.ref (a 0), .int x0]) (n := 3) (Nat.le_of_ble_eq_true rfl)
  rw [lg_entry_eq]
  generalize (lg_sl ([.ref (a 0), .int x0]) ++ List.replicate (3 - (lg_sl ([.ref (a 0), .int x0])).length) Slot.unset).toArray = ls at hl ⊢
  have hl : lv_has ls 3 [(0, .ref (a 0)), (1, .int x0)] := hl
  have hRO0 := hM.2.2.2.2.2.2.2.2.1
  have hRO1 := hM.2.2.2.2.2.2.2.2.2.1
  have hRO2 := hM.2.2.2.2.2.2.2.2.2.2.1
  have hRO3 := hM.2.2.2.2.2.2.2.2.2.2.2
  have lp5 : ∀ (n5 : Nat), ∀ (o9 : Option Nat) (S9 : List Int32), (chR Y S9 o9) → (findS S x0 = findS S9 x0) → S9.length < n5 → ∀ (ls : Array Slot), lv_has ls 3 [(0, .ref (a 0)), (1, .int x0), (2, va_rf o9)] → W p l e (headSpec wsX9_stoneOf ({ frames := 0, cells := 0, slots := 0, locals := 0 })).room s m ([.ref (a 0), .int x0] : List Value).toArray below meth c s.heap [] 0 0 (MQ below (va_Sq (fun r => stF Y S x0 r)) ([.ref (a 0), .int x0] : List Value).toArray s 0 0 (fun _ => False)) (F0 m 5 ls []) := by
    intro n5
    induction n5 with
    | zero => intro o9 S9 hch_5 hf hn; exact absurd hn (Nat.not_lt_zero _)
    | succ n5 ih5 =>
      intro o9 S9 hch_5 hf hn5 ls hl
      refine lv_aload_nO hx hb dX9_stoneOf_5 rfl (lv_at hl 2 rfl) ?_
      refine lv_ifnullO (tgt := 27) hx hb dX9_stoneOf_6 (by decide) (fun c_1 => ?_) (fun c_1 => ?_)
      · subst c_1
        refine lv_null hx hb dX9_stoneOf_27 ?_
        exact pret_q (o := none) hx hb hr hlocks (Or.inl ⟨_, rfl⟩) (Or.inl ⟨rfl, (by rw [hf, chR_nil hch_5 rfl]; rfl)⟩) dX9_stoneOf_28
      · obtain ⟨v_5, T_6, b_2, o_7, v_8, hS_9, e_4, hm_3, hp_10, hc_11⟩ := chR_some hch_5 c_1
        subst hS_9
        subst e_4
        refine lv_aload_n hx hb dX9_stoneOf_9 rfl (lv_at hl 2 rfl) ?_
        obtain ⟨k_12, hk_13⟩ : ∃ k : Nat, (CT cy a J I O R RO (LL ++ Y))[k]? = some (b_2, .inr (6, [va_rf o_7, .int (nI T_6.length), .int (sK v_5), .int (sF v_5), .int (bI (m_acr v_5)), .int v_8, .long (sP v_5)])) := pixT hm_3
        refine va_get (D := D) (ci := 6) (v := .int (nI T_6.length)) (C := RX7) (T := TX7) (N := 7) hx hb hts hi7 hown hK hP k_12 hk_13 rfl 1 (by decide) hw0 (fun _ h9 => h9) rfl dX9_stoneOf_10 ?_
        refine lv_iload_n hx hb dX9_stoneOf_13 rfl (lv_at hl 1 rfl) ?_
        refine lv_icmp_ne (tgt := 19) hx hb dX9_stoneOf_14 (by decide) (fun c_14 => ?_) (fun c_14 => ?_)
        · refine lv_aload_n hx hb dX9_stoneOf_19 rfl (lv_at hl 2 rfl) ?_
          obtain ⟨k_15, hk_16⟩ : ∃ k : Nat, (CT cy a J I O R RO (LL ++ Y))[k]? = some (b_2, .inr (6, [va_rf o_7, .int (nI T_6.length), .int (sK v_5), .int (sF v_5), .int (bI (m_acr v_5)), .int v_8, .long (sP v_5)])) := pixT hm_3
          refine va_get (D := D) (ci := 6) (v := va_rf o_7) (C := RX7) (T := TX7) (N := 7) hx hb hts hi7 hown hK hP k_15 hk_16 rfl 0 (by decide) hw1 (fun _ h9 => h9) rfl dX9_stoneOf_20 ?_
          refine lv_astore_nO (lv' := [(2, va_rf o_7), (0, .ref (a 0)), (1, .int x0)]) hx hb dX9_stoneOf_23 rfl hl (by decide) rfl (fun ls hl => ?_)
          refine lv_goto (tgt := 5) hx hb dX9_stoneOf_24 (by decide) ?_
          exact ih5 o_7 T_6 hc_11 (hf.trans (find_miss c_14)) (Nat.lt_of_succ_lt_succ hn5) ls (lv_sub hl [1, 2, 0] rfl)
        · refine lv_aload_n hx hb dX9_stoneOf_17 rfl (lv_at hl 2 rfl) ?_
          exact pret_q (o := some b_2) hx hb hr hlocks (Or.inl ⟨_, rfl⟩) (Or.inr ⟨_, _, v_5, _, rfl, (by rw [← c_14]; exact hm_3), hf.trans (find_hit c_14)⟩) dX9_stoneOf_18
  refine lv_aload_n hx hb dX9_stoneOf_0 rfl (lv_at hl 0 rfl) ?_
  refine va_get (D := D) (ci := 8) (v := va_rf (O 7)) (C := RX9) (T := TX9) (N := 11) hx hb hts hi9 hown hK hP 0 rfl rfl 7 (by decide) hw2 (fun _ h9 => h9) rfl dX9_stoneOf_1 ?_
  refine lv_astore_nO (lv' := [(2, va_rf (O 7)), (0, .ref (a 0)), (1, .int x0)]) hx hb dX9_stoneOf_4 rfl hl (by decide) rfl (fun ls hl => ?_)
  exact lp5 _ (O 7) S hRA.2.1.1 rfl (Nat.lt_succ_self _) ls (lv_sub hl [1, 2, 0] rfl)
