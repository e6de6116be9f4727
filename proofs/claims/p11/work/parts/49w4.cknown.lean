set_option maxHeartbeats 4000000 in
set_option maxRecDepth 100000 in
theorem x_X9_gluedStarts (l : Launch) (D : va_G) (cy : Nat → ClassId) (a : Nat → Nat) (sz : Nat) (J : Nat → Int64) (I : Nat → Int32) (O : Nat → Option Nat) (R : Nat → Nat → Int32) (RO : Nat → Nat → Option Nat) (LL : va_W) (Y : va_W) (x0 : Bool) (fl : Int64) (S : List Int32) (P : List PE) (hRA : RCf Y (J 6) (O 7) (I 9) (RO 2) fl S P) (hM : CI a Y I O RO) : Met l yX9_gluedStarts wsX9_gluedStarts ({ frames := 2, cells := 0, slots := 0, locals := 41 }) (va_Pc [.ref (a 0), .int (bI x0)] (PW D cy sz (CT cy a J I O R RO (LL ++ Y)))) (vp_Sl (fun r => r = gSt x0 0 S)) 0 0 (fun _ => False) := by
  refine Met.ofW (cc := cX9_gluedStarts) (maxL := 5) (ret := (some .long)) (by decide) rfl ?_
  intro p e s m args below meth c s₁ B hml hv
  obtain ⟨rfl, rfl, hP, hK, hN, hD0⟩ := hv
  have hx := B.exec
  have hb := B.bytes
  have hr := B.returns
  have hts := atoms_spec (ws := wsX9_gluedStarts) B.pre
  have hown : s.vm.findClass RX9 = some m.cls := findClass_of_methodNamed B.named
  have hlocks := B.notSynchronized
  have hw0 := hts (.fieldLink RX9 138 "ParquetLayer$Stone" "below" "LParquetLayer$Stone;") (by decide +kernel)
  have hw1 := hts (.fieldLink RX9 158 "ParquetLayer$Stone" "across" "Z") (by decide +kernel)
  have hw2 := hts (.fieldLink RX9 155 "ParquetLayer$Stone" "field" "I") (by decide +kernel)
  have hw3 := hts (.fieldLink RX9 106 "ParquetLayer" "latest" "LParquetLayer$Stone;") (by decide +kernel)
  have hi7 := ihX9_gluedStarts_7
  have hi9 := ihX9_gluedStarts_9
  have hD := hD0
  have hl := lv_entry ([.ref (a 0), .int (bI x0)]) (n := 5) (Nat.le_of_ble_eq_true rfl)
  rw [lg_entry_eq]
  generalize (lg_sl ([.ref (a 0), .int (bI x0)]) ++ List.replicate (5 - (lg_sl ([.ref (a 0), .int (bI x0)])).length) Slot.unset).toArray = ls at hl ⊢
  have hl : lv_has ls 5 [(0, .ref (a 0)), (1, .int (bI x0))] := hl
  have hRO0 := hM.2.2.2.2.2.2.2.2.1
  have hRO1 := hM.2.2.2.2.2.2.2.2.2.1
  have hRO2 := hM.2.2.2.2.2.2.2.2.2.2.1
  have hRO3 := hM.2.2.2.2.2.2.2.2.2.2.2
  have lp8 : ∀ (n8 : Nat), ∀ (v2_8 : Int64) (o9 : Option Nat) (S9 : List Int32), (chR Y S9 o9) → (gSt x0 0 S = gSt x0 v2_8 S9) → S9.length < n8 → ∀ (ls : Array Slot), lv_has ls 5 [(0, .ref (a 0)), (1, .int (bI x0)), (2, .long v2_8), (4, va_rf o9)] → W p l e (headSpec wsX9_gluedStarts ({ frames := 2, cells := 0, slots := 0, locals := 41 })).room s m ([.ref (a 0), .int (bI x0)] : List Value).toArray below meth c s.heap [] 0 0 (MQ below (vp_Sl (fun r => r = gSt x0 0 S)) ([.ref (a 0), .int (bI x0)] : List Value).toArray s 0 0 (fun _ => False)) (F0 m 8 ls []) := by
    intro n8
    induction n8 with
    | zero => intro v2_8 o9 S9 hch_8 hgo hn; exact absurd hn (Nat.not_lt_zero _)
    | succ n8 ih8 =>
      intro v2_8 o9 S9 hch_8 hgo hn8 ls hl
      refine lv_aloadO hx hb dX9_gluedStarts_8 (lv_at hl 3 rfl) ?_
      refine lv_ifnullO (tgt := 50) hx hb dX9_gluedStarts_10 (by decide) (fun c_1 => ?_) (fun c_1 => ?_)
      · subst c_1
        refine lv_lload_n hx hb dX9_gluedStarts_50 rfl (lv_at hl 2 rfl) ?_
        exact pret_l hx hb hr hlocks (by rw [hgo, chR_nil hch_8 rfl]; rfl) dX9_gluedStarts_51
      · obtain ⟨v_5, T_6, b_2, o_7, v_8, hS_9, e_4, hm_3, hp_10, hc_11⟩ := chR_some hch_8 c_1
        subst hS_9
        subst e_4
        refine lv_aload hx hb dX9_gluedStarts_13 (lv_at hl 3 rfl) ?_
        obtain ⟨k_12, hk_13⟩ : ∃ k : Nat, (CT cy a J I O R RO (LL ++ Y))[k]? = some (b_2, .inr (6, [va_rf o_7, .int (nI T_6.length), .int (sK v_5), .int (sF v_5), .int (bI (m_acr v_5)), .int v_8, .long (sP v_5)])) := pixT hm_3
        refine kR_i (As := []) (rest := []) (q0 := k_12) ⟨hx, hb, hml, hown, hts⟩ (x_X7_isGlued l D cy _ (CT cy a J I O R RO (LL ++ Y)) k_12 b_2 o_7 (nI T_6.length) (sK v_5) (sF v_5) (m_acr v_5) v_8 (sP v_5) hk_13) (cwV 0 hts gX9_gluedStarts_X7_isGlued rfl rfl rfl (by decide +kernel) ⟨Nat.le_of_ble_eq_true rfl, Nat.le_of_ble_eq_true rfl⟩) hK hN hP hD hk_13 rfl rfl hl.1 rfl (Nat.le_of_ble_eq_true rfl) dX9_gluedStarts_15 ⟨Nat.le_of_ble_eq_true rfl, Nat.le_of_ble_eq_true rfl⟩ ?_
        refine lv_if_eq (tgt := 40) hx hb dX9_gluedStarts_18 (by decide) (fun c_14 => ?_) (fun c_14 => ?_)
        · replace c_14 := bI_f c_14
          refine lv_aload hx hb dX9_gluedStarts_40 (lv_at hl 3 rfl) ?_
          obtain ⟨k_15, hk_16⟩ : ∃ k : Nat, (CT cy a J I O R RO (LL ++ Y))[k]? = some (b_2, .inr (6, [va_rf o_7, .int (nI T_6.length), .int (sK v_5), .int (sF v_5), .int (bI (m_acr v_5)), .int v_8, .long (sP v_5)])) := pixT hm_3
          refine va_get (D := D) (ci := 6) (v := va_rf o_7) (C := RX7) (T := TX7) (N := 7) hx hb hts hi7 hown hK hP k_15 hk_16 rfl 0 (by decide) hw0 (fun _ h9 => h9) rfl dX9_gluedStarts_42 ?_
          refine lv_astoreO (lv' := [(4, va_rf o_7), (0, .ref (a 0)), (1, .int (bI x0)), (2, .long v2_8)]) hx hb dX9_gluedStarts_45 hl (by decide) rfl (fun ls hl => ?_)
          refine lv_goto (tgt := 8) hx hb dX9_gluedStarts_47 (by decide) ?_
          exact ih8 v2_8 o_7 T_6 hc_11 (hgo.trans (gSt_n1 c_14)) (Nat.lt_of_succ_lt_succ hn8) ls (lv_sub hl [1, 2, 3, 0] rfl)
        · replace c_14 := bI_t c_14
          refine lv_aload hx hb dX9_gluedStarts_21 (lv_at hl 3 rfl) ?_
          obtain ⟨k_17, hk_18⟩ : ∃ k : Nat, (CT cy a J I O R RO (LL ++ Y))[k]? = some (b_2, .inr (6, [va_rf o_7, .int (nI T_6.length), .int (sK v_5), .int (sF v_5), .int (bI (m_acr v_5)), .int v_8, .long (sP v_5)])) := pixT hm_3
          refine va_get (D := D) (ci := 6) (v := .int (bI (m_acr v_5))) (C := RX7) (T := TX7) (N := 7) hx hb hts hi7 hown hK hP k_17 hk_18 rfl 4 (by decide) hw1 (fun _ h9 => h9) rfl dX9_gluedStarts_23 ?_
          refine lv_iload_n hx hb dX9_gluedStarts_26 rfl (lv_at hl 1 rfl) ?_
          refine lv_icmp_ne (tgt := 40) hx hb dX9_gluedStarts_27 (by decide) (fun c_19 => ?_) (fun c_19 => ?_)
          · refine lv_aload hx hb dX9_gluedStarts_40 (lv_at hl 3 rfl) ?_
            obtain ⟨k_20, hk_21⟩ : ∃ k : Nat, (CT cy a J I O R RO (LL ++ Y))[k]? = some (b_2, .inr (6, [va_rf o_7, .int (nI T_6.length), .int (sK v_5), .int (sF v_5), .int (bI (m_acr v_5)), .int v_8, .long (sP v_5)])) := pixT hm_3
            refine va_get (D := D) (ci := 6) (v := va_rf o_7) (C := RX7) (T := TX7) (N := 7) hx hb hts hi7 hown hK hP k_20 hk_21 rfl 0 (by decide) hw0 (fun _ h9 => h9) rfl dX9_gluedStarts_42 ?_
            refine lv_astoreO (lv' := [(4, va_rf o_7), (0, .ref (a 0)), (1, .int (bI x0)), (2, .long v2_8)]) hx hb dX9_gluedStarts_45 hl (by decide) rfl (fun ls hl => ?_)
            refine lv_goto (tgt := 8) hx hb dX9_gluedStarts_47 (by decide) ?_
            exact ih8 v2_8 o_7 T_6 hc_11 (hgo.trans (gSt_n2 c_19)) (Nat.lt_of_succ_lt_succ hn8) ls (lv_sub hl [1, 2, 3, 0] rfl)
          · refine lv_lload_n hx hb dX9_gluedStarts_30 rfl (lv_at hl 2 rfl) ?_
            refine lv_lconst (v := 1) hx hb dX9_gluedStarts_31 (by decide) ?_
            refine lv_aload hx hb dX9_gluedStarts_32 (lv_at hl 3 rfl) ?_
            obtain ⟨k_22, hk_23⟩ : ∃ k : Nat, (CT cy a J I O R RO (LL ++ Y))[k]? = some (b_2, .inr (6, [va_rf o_7, .int (nI T_6.length), .int (sK v_5), .int (sF v_5), .int (bI (m_acr v_5)), .int v_8, .long (sP v_5)])) := pixT hm_3
            refine va_get (D := D) (ci := 6) (v := .int (sF v_5)) (C := RX7) (T := TX7) (N := 7) hx hb hts hi7 hown hK hP k_22 hk_23 rfl 3 (by decide) hw2 (fun _ h9 => h9) rfl dX9_gluedStarts_34 ?_
            refine lv_lshl (v := (1 : Int64) <<< ((sF v_5 : Int32).toInt64 &&& 63)) hx hb dX9_gluedStarts_37 rfl ?_
            refine lv_lor hx hb dX9_gluedStarts_38 ?_
            refine lv_lstore_n (lv' := [(2, .long (v2_8 ||| ((1 : Int64) <<< ((sF v_5 : Int32).toInt64 &&& 63)))), (0, .ref (a 0)), (1, .int (bI x0)), (4, .ref b_2)]) hx hb dX9_gluedStarts_39 rfl hl (by decide) rfl (fun ls hl => ?_)
            refine lv_aload hx hb dX9_gluedStarts_40 (lv_at hl 3 rfl) ?_
            obtain ⟨k_24, hk_25⟩ : ∃ k : Nat, (CT cy a J I O R RO (LL ++ Y))[k]? = some (b_2, .inr (6, [va_rf o_7, .int (nI T_6.length), .int (sK v_5), .int (sF v_5), .int (bI (m_acr v_5)), .int v_8, .long (sP v_5)])) := pixT hm_3
            refine va_get (D := D) (ci := 6) (v := va_rf o_7) (C := RX7) (T := TX7) (N := 7) hx hb hts hi7 hown hK hP k_24 hk_25 rfl 0 (by decide) hw0 (fun _ h9 => h9) rfl dX9_gluedStarts_42 ?_
            refine lv_astoreO (lv' := [(4, va_rf o_7), (2, .long (v2_8 ||| ((1 : Int64) <<< ((sF v_5 : Int32).toInt64 &&& 63)))), (0, .ref (a 0)), (1, .int (bI x0))]) hx hb dX9_gluedStarts_45 hl (by decide) rfl (fun ls hl => ?_)
            refine lv_goto (tgt := 8) hx hb dX9_gluedStarts_47 (by decide) ?_
            exact ih8 (v2_8 ||| ((1 : Int64) <<< ((sF v_5 : Int32).toInt64 &&& 63))) o_7 T_6 hc_11 (hgo.trans (gSt_y c_14 c_19)) (Nat.lt_of_succ_lt_succ hn8) ls (lv_sub hl [2, 3, 1, 0] rfl)
  refine lv_lconst (v := 0) hx hb dX9_gluedStarts_0 (by decide) ?_
  refine lv_lstore_n (lv' := [(2, .long 0), (0, .ref (a 0)), (1, .int (bI x0))]) hx hb dX9_gluedStarts_1 rfl hl (by decide) rfl (fun ls hl => ?_)
  refine lv_aload_n hx hb dX9_gluedStarts_2 rfl (lv_at hl 1 rfl) ?_
  refine va_get (D := D) (ci := 8) (v := va_rf (O 7)) (C := RX9) (T := TX9) (N := 11) hx hb hts hi9 hown hK hP 0 rfl rfl 7 (by decide) hw3 (fun _ h9 => h9) rfl dX9_gluedStarts_3 ?_
  refine lv_astoreO (lv' := [(4, va_rf (O 7)), (2, .long 0), (0, .ref (a 0)), (1, .int (bI x0))]) hx hb dX9_gluedStarts_6 hl (by decide) rfl (fun ls hl => ?_)
  exact lp8 _ (0 : Int64) (O 7) S hRA.2.1.1 rfl (Nat.lt_succ_self _) ls (lv_sub hl [2, 3, 1, 0] rfl)
set_option maxHeartbeats 4000000 in
set_option maxRecDepth 100000 in
theorem x_X9_isGluedPlace (l : Launch) (D : va_G) (cy : Nat → ClassId) (a : Nat → Nat) (sz : Nat) (J : Nat → Int64) (I : Nat → Int32) (O : Nat → Option Nat) (R : Nat → Nat → Int32) (RO : Nat → Nat → Option Nat) (LL : va_W) (Y : va_W) (x0 : Int32) (x1 : Bool) (fl : Int64) (S : List Int32) (P : List PE) (hRA : RCf Y (J 6) (O 7) (I 9) (RO 2) fl S P) (hM : CI a Y I O RO) : Met l yX9_isGluedPlace wsX9_isGluedPlace ({ frames := 3, cells := 0, slots := 0, locals := 65 }) (va_Pc [.ref (a 0), .int x0, .int (bI x1)] (PW D cy sz (CT cy a J I O R RO (LL ++ Y)))) (vp_Si (fun r => r = bI (g_holds (gSt x1 0 S) x0))) 0 0 (fun _ => False) := by
  refine Met.ofW (cc := cX9_isGluedPlace) (maxL := 3) (ret := (some .boolean)) (by decide) rfl ?_
  intro p e s m args below meth c s₁ B hml hv
  obtain ⟨rfl, rfl, hP, hK, hN, hD0⟩ := hv
  have hx := B.exec
  have hb := B.bytes
  have hr := B.returns
  have hts := atoms_spec (ws := wsX9_isGluedPlace) B.pre
  have hown : s.vm.findClass RX9 = some m.cls := findClass_of_methodNamed B.named
  have hlocks := B.notSynchronized
  have hD := hD0
  have hl := lv_entry ([.ref (a 0), .int x0, .int (bI x1)]) (n := 3) (Nat.le_of_ble_eq_true rfl)
  rw [lg_entry_eq]
  generalize (lg_sl ([.ref (a 0), .int x0, .int (bI x1)]) ++ List.replicate (3 - (lg_sl ([.ref (a 0), .int x0, .int (bI x1)])).length) Slot.unset).toArray = ls at hl ⊢
  have hl : lv_has ls 3 [(0, .ref (a 0)), (1, .int x0), (2, .int (bI x1))] := hl
  have hRO0 := hM.2.2.2.2.2.2.2.2.1
  have hRO1 := hM.2.2.2.2.2.2.2.2.2.1
  have hRO2 := hM.2.2.2.2.2.2.2.2.2.2.1
  have hRO3 := hM.2.2.2.2.2.2.2.2.2.2.2
  refine lv_aload_n hx hb dX9_isGluedPlace_0 rfl (lv_at hl 0 rfl) ?_
  refine lv_iload_n hx hb dX9_isGluedPlace_1 rfl (lv_at hl 2 rfl) ?_
  refine kR_l (As := [.int (bI x1)]) (rest := []) (q0 := 0) ⟨hx, hb, hml, hown, hts⟩ (x_X9_gluedStarts l D cy a _ J I O R RO LL Y x1 fl S P hRA ⟨hM.1, hM.2.1, hM.2.2.1, hM.2.2.2.1, hM.2.2.2.2.1, hM.2.2.2.2.2.1, hM.2.2.2.2.2.2.1, hM.2.2.2.2.2.2.2.1, hRO0, hRO1, hRO2, hRO3⟩) (cwV 1 hts gX9_isGluedPlace_X9_gluedStarts rfl rfl rfl (by decide +kernel) ⟨Nat.le_of_ble_eq_true rfl, Nat.le_of_ble_eq_true rfl⟩) hK hN hP hD rfl rfl rfl hl.1 rfl (Nat.le_of_ble_eq_true rfl) dX9_isGluedPlace_2 ⟨Nat.le_of_ble_eq_true rfl, Nat.le_of_ble_eq_true rfl⟩ ?_
  refine lv_iload_n hx hb dX9_isGluedPlace_5 rfl (lv_at hl 1 rfl) ?_
  refine kS_i (As := [.long (gSt x1 0 S), .int x0]) (rest := []) ⟨hx, hb, hml, hown, hts⟩ (c_X1_holds l (gSt x1 0 S) x0) (va_cwS 2 hts gX9_isGluedPlace_X1_holds rfl rfl rfl (by decide +kernel) ⟨Nat.le_of_ble_eq_true rfl, Nat.le_of_ble_eq_true rfl⟩) rfl hl.1 rfl (Nat.le_of_ble_eq_true rfl) dX9_isGluedPlace_6 ⟨Nat.le_of_ble_eq_true rfl, Nat.le_of_ble_eq_true rfl⟩ ?_
  exact pret_z hx hb hr hlocks rfl dX9_isGluedPlace_9
set_option maxHeartbeats 4000000 in
set_option maxRecDepth 100000 in
theorem x_X9_knownLayings (l : Launch) (D : va_G) (cy : Nat → ClassId) (a : Nat → Nat) (sz : Nat) (J : Nat → Int64) (I : Nat → Int32) (O : Nat → Option Nat) (R : Nat → Nat → Int32) (RO : Nat → Nat → Option Nat) (LL Y : va_W)  (fl : Int64) (S : List Int32) (P : List PE) (hRA : RCf Y (J 6) (O 7) (I 9) (RO 2) fl S P) (hM : CI a Y I O RO) (hL : LOK cy (O 5) LL) : Met l yX9_knownLayings wsX9_knownLayings ({ frames := 4, cells := 3, slots := 17156, locals := 99 }) (va_Pc [.ref (a 0)] (PW D cy sz (CT cy a J I O R RO (LL ++ Y)))) (va_Qr (fun u : Nat × Nat × Int64 × Int32 × (Nat → Int32) × (Nat → Int32) => isB u.2.2.2.1 ∧ (u.2.2.2.1 = 1 → tabF (bfx u.2.2.1) u.2.2.2.2.1 0) ∧ u.2.2.1 = J 6 &&& (gOr 0 S ^^^ (-1)) ∧ u.2.2.2.2.1 (0 : Int32).toNatClampNeg = Wd (bfx u.2.2.1) 64 0) (fun u r t => va_P D vwCl (CT cy a J I (va_up O 5 (some r)) R RO (lgC cy r u.1 u.2.1 u.2.2.1 u.2.2.2.1 u.2.2.2.2.1 u.2.2.2.2.2 ++ Y)) t.heap ∧ va_D (va_A (CT cy a J I O R RO (LL ++ Y)) sz) (CT cy a J I (va_up O 5 (some r)) R RO (lgC cy r u.1 u.2.1 u.2.2.1 u.2.2.2.1 u.2.2.2.2.1 u.2.2.2.2.2 ++ Y))) (va_A (CT cy a J I O R RO (LL ++ Y)) sz)) 3 17156 (va_A (CT cy a J I O R RO (LL ++ Y)) sz) := by
  refine Met.ofW (cc := cX9_knownLayings) (maxL := 1) (ret := (some (.object "ParquetLayer$Layings"))) (by decide) rfl ?_
  intro p e s m args below meth c s₁ B hml hv
  obtain ⟨rfl, rfl, hP, hK, hN, hD0⟩ := hv
  have hx := B.exec
  have hb := B.bytes
  have hr := B.returns
  have hts := atoms_spec (ws := wsX9_knownLayings) B.pre
  have hown : s.vm.findClass RX9 = some m.cls := findClass_of_methodNamed B.named
  have hlocks := B.notSynchronized
  have hw0 := hts (.fieldLink RX9 337 "ParquetLayer" "layings" "LParquetLayer$Layings;") (by decide +kernel)
  have hw1 := hts (.classLink RX9 175 RX4) (by decide +kernel)
  have hw2 := hts (.instantiable RX4 4) (by decide +kernel)
  have hw3 := hts (.initialized RX4) (by decide +kernel)
  have hw4 := hts (.instanceMethod yX4_init) (by decide +kernel)
  have hw5 := hts (.fieldLink RX9 48 "ParquetLayer" "fields" "J") (by decide +kernel)
  have hw6 := hts (.constantLong RX9 54 (-1)) (by decide +kernel)
  have hi4 := ihX9_knownLayings_4
  have hi9 := ihX9_knownLayings_9
  have hD := hD0.self (sz := s.heap.size)
  generalize hAe : va_A (CT cy a J I O R RO (LL ++ Y)) s.heap.size = A at hD ⊢
  have hA : ∀ q : Nat, s.heap.size ≤ q → A q := fun q h => by rw [← hAe]; exact Or.inr h
  have hS : va_S A s.heap s.heap [] := va_S.rf
  have hl := lv_entry ([.ref (a 0)]) (n := 1) (Nat.le_of_ble_eq_true rfl)
  rw [lg_entry_eq]
  generalize (lg_sl ([.ref (a 0)]) ++ List.replicate (1 - (lg_sl ([.ref (a 0)])).length) Slot.unset).toArray = ls at hl ⊢
  have hl : lv_has ls 1 [(0, .ref (a 0))] := hl
  have hRO0 := hM.2.2.2.2.2.2.2.2.1
  have hRO1 := hM.2.2.2.2.2.2.2.2.2.1
  have hRO2 := hM.2.2.2.2.2.2.2.2.2.2.1
  have hRO3 := hM.2.2.2.2.2.2.2.2.2.2.2
  have hP : va_P D vwCl (CT cy a J I (va_up O 5 (O 5)) R RO (LL ++ Y)) s.heap := hP
  have hD : va_D A (CT cy a J I (va_up O 5 (O 5)) R RO (LL ++ Y)) := hD
  rcases hL with ⟨h5, rfl⟩ | ⟨b0, b1, b2, jf, kn, fw, fp, h5, hkn, htb, rfl⟩
  · rw [h5] at hP hD
    refine lv_aload_n hx hb dX9_knownLayings_0 rfl (lv_at hl 0 rfl) ?_
    refine va_get (D := D) (ci := 8) (v := .null) (C := RX9) (T := TX9) (N := 11) hx hb hts hi9 hown hK hP 0 rfl rfl 5 (by decide) hw0 (fun _ h9 => h9) rfl dX9_knownLayings_1 ?_
    refine lv_ifnonnullN hx hb dX9_knownLayings_4 ?_
    refine lv_aload_n hx hb dX9_knownLayings_7 rfl (lv_at hl 0 rfl) ?_
    refine va_new (ci := 3) (fs := [.null, .null, .long 0, .int 0]) (C := RX4) (T := TX4) (N := 4) hx hb hts hi4 tyX4 tyX4_ok hown hw1 hw2 hw3 hK hP hD hS hA rfl (fun j hj => by rcases (show j = 0 ∨ j = 1 ∨ j = 2 ∨ j = 3 by omega) with rfl | rfl | rfl | rfl <;> rfl) (Nat.le_of_ble_eq_true rfl) (Nat.le_of_ble_eq_true rfl) dX9_knownLayings_8 (fun q_1 H hP hD hS => ?_)
    have hP : va_P D vwCl (CT cy a J I (va_up O 5 none) R RO ([] ++ Y) ++ [(q_1, .inr (3, [.null, .null, .long 0, .int 0]))]) H := hP
    have hD : va_D A (CT cy a J I (va_up O 5 none) R RO ([] ++ Y) ++ [(q_1, .inr (3, [.null, .null, .long 0, .int 0]))]) := hD
    refine lv_dup hx hb dX9_knownLayings_11 rfl ?_
    refine kNewN_v (As := []) (rest := [.ref q_1, .ref (a 0)]) (X := CT cy a J I (va_up O 5 none) R RO ([] ++ Y)) ⟨hx, hb, hml, hown, hts⟩ (ct_X4_init l D cy q_1 _ ) ⟨va_cnB 0 hts gX9_knownLayings_X4_init_n341 rfl rfl rfl hN.2.2.2.2.2.1 hw3 (by decide +kernel) ⟨Nat.le_of_ble_eq_true rfl, Nat.le_of_ble_eq_true rfl⟩, rfl, hw4⟩ hK hN hP hD hS hA rfl hl.1 rfl (Nat.le_of_ble_eq_true rfl) dX9_knownLayings_12 ⟨Nat.le_of_ble_eq_true rfl, Nat.le_of_ble_eq_true rfl⟩ (fun u H locs hw hP hD hS => ?_)
    obtain ⟨q_2, q_3⟩ := u
    have hP : va_P D vwCl (CT cy a J I (va_up O 5 none) R RO ([] ++ Y) ++ [(q_1, .inr (3, [.ref q_2, .ref q_3, .long 0, .int 0])), (q_2, .inl (cy 0, 16640, .inl (fun _ => 0))), (q_3, .inl (cy 0, 512, .inl (fun _ => 0)))]) H := hP
    have hD : va_D A (CT cy a J I (va_up O 5 none) R RO ([] ++ Y) ++ [(q_1, .inr (3, [.ref q_2, .ref q_3, .long 0, .int 0])), (q_2, .inl (cy 0, 16640, .inl (fun _ => 0))), (q_3, .inl (cy 0, 512, .inl (fun _ => 0)))]) := hD
    have hP : va_P D vwCl (CT cy a J I (va_up O 5 none) R RO ([(q_1, .inr (3, [.ref q_2, .ref q_3, .long 0, .int 0])), (q_2, .inl (cy 0, 16640, .inl (fun _ => 0))), (q_3, .inl (cy 0, 512, .inl (fun _ => 0)))] ++ Y)) H := P_perm (X := CT cy a J I (va_up O 5 none) R RO []) (Y := Y) (L := [(q_1, .inr (3, [.ref q_2, .ref q_3, .long 0, .int 0])), (q_2, .inl (cy 0, 16640, .inl (fun _ => 0))), (q_3, .inl (cy 0, 512, .inl (fun _ => 0)))]) hP
    have hD : va_D A (CT cy a J I (va_up O 5 none) R RO ([(q_1, .inr (3, [.ref q_2, .ref q_3, .long 0, .int 0])), (q_2, .inl (cy 0, 16640, .inl (fun _ => 0))), (q_3, .inl (cy 0, 512, .inl (fun _ => 0)))] ++ Y)) := D_perm (X := CT cy a J I (va_up O 5 none) R RO []) (Y := Y) (L := [(q_1, .inr (3, [.ref q_2, .ref q_3, .long 0, .int 0])), (q_2, .inl (cy 0, 16640, .inl (fun _ => 0))), (q_3, .inl (cy 0, 512, .inl (fun _ => 0)))]) hD
    refine va_put (D := D) (ci := 8) (v := .ref q_1) (ty := .object "ParquetLayer$Layings") (C := RX9) (T := TX9) (N := 11) hx hb hts hi9 tyX9 tyX9_ok nmX9 hown hK hP hD hS 0 rfl rfl 5 (by decide) hw0 (fun _ h9 => h9) rfl (by decide +kernel) rfl rfl (Nat.le_of_ble_eq_true rfl) dX9_knownLayings_15 (fun H locs hP hD hS => ?_)
    have hP : va_P D vwCl (CT cy a J I (va_up O 5 (some q_1)) R RO ([(q_1, .inr (3, [.ref q_2, .ref q_3, .long 0, .int 0])), (q_2, .inl (cy 0, 16640, .inl (fun _ => 0))), (q_3, .inl (cy 0, 512, .inl (fun _ => 0)))] ++ Y)) H := hP
    have hD : va_D A (CT cy a J I (va_up O 5 (some q_1)) R RO ([(q_1, .inr (3, [.ref q_2, .ref q_3, .long 0, .int 0])), (q_2, .inl (cy 0, 16640, .inl (fun _ => 0))), (q_3, .inl (cy 0, 512, .inl (fun _ => 0)))] ++ Y)) := hD
    refine lv_aload_n hx hb dX9_knownLayings_18 rfl (lv_at hl 0 rfl) ?_
    refine va_get (D := D) (ci := 8) (v := .ref q_1) (C := RX9) (T := TX9) (N := 11) hx hb hts hi9 hown hK hP 0 rfl rfl 5 (by decide) hw0 (fun _ h9 => h9) rfl dX9_knownLayings_19 ?_
    refine lv_aload_n hx hb dX9_knownLayings_22 rfl (lv_at hl 0 rfl) ?_
    refine va_get (D := D) (ci := 8) (v := .long (J 6)) (C := RX9) (T := TX9) (N := 11) hx hb hts hi9 hown hK hP 0 rfl rfl 6 (by decide) hw5 (fun _ h9 => h9) rfl dX9_knownLayings_23 ?_
    refine lv_aload_n hx hb dX9_knownLayings_26 rfl (lv_at hl 0 rfl) ?_
    refine kR_l (As := []) (rest := [.long (J 6), .ref q_1]) (q0 := 0) ⟨hx, hb, hml, hown, hts⟩ (x_X9_gluedFields l D cy a _ J I (va_up O 5 (some q_1)) R RO ([(q_1, .inr (3, [.ref q_2, .ref q_3, .long 0, .int 0])), (q_2, .inl (cy 0, 16640, .inl (fun _ => 0))), (q_3, .inl (cy 0, 512, .inl (fun _ => 0)))]) Y  fl S P hRA ⟨hM.1, hM.2.1, hM.2.2.1, hM.2.2.2.1, hM.2.2.2.2.1, hM.2.2.2.2.2.1, hM.2.2.2.2.2.2.1, hM.2.2.2.2.2.2.2.1, hRO0, hRO1, hRO2, hRO3⟩) (cwV 0 hts gX9_knownLayings_X9_gluedFields rfl rfl rfl (by decide +kernel) ⟨Nat.le_of_ble_eq_true rfl, Nat.le_of_ble_eq_true rfl⟩) hK hN hP hD rfl rfl rfl hl.1 rfl (Nat.le_of_ble_eq_true rfl) dX9_knownLayings_27 ⟨Nat.le_of_ble_eq_true rfl, Nat.le_of_ble_eq_true rfl⟩ ?_
    refine lv_ldc2 (v := (-1)) hx hb hown hw6 dX9_knownLayings_30 ?_
    refine lv_lxor hx hb dX9_knownLayings_33 ?_
    refine lv_land hx hb dX9_knownLayings_34 ?_
    refine kM_v (As := [.long ((J 6) &&& ((gOr 0 S) ^^^ (-1)))]) (rest := []) (q0 := 20) ⟨hx, hb, hml, hown, hts⟩ (t_X4_know l D cy a _ J I (va_up O 5 (some q_1)) R RO q_1 q_2 q_3 0 0 (fun _ => 0) (fun _ => 0) (Or.inl rfl) Y ((J 6) &&& ((gOr 0 S) ^^^ (-1))) (fun z => absurd z (by decide))  ) (cwV 1 hts gX9_knownLayings_X4_know rfl rfl rfl (by decide +kernel) ⟨Nat.le_of_ble_eq_true rfl, Nat.le_of_ble_eq_true rfl⟩) hK hN hP hD hS hA rfl rfl rfl hl.1 rfl (Nat.le_of_ble_eq_true rfl) dX9_knownLayings_35 ⟨Nat.le_of_ble_eq_true rfl, Nat.le_of_ble_eq_true rfl⟩ (fun u H locs hw hP hD hS => ?_)
    obtain ⟨g_5, g_6, g_7, ⟨hkn_8, hp_9, hp_10, hp_11⟩, rfl⟩ := hw
    have hP : va_P D vwCl (CT cy a J I (va_up O 5 (some q_1)) R RO ([(q_1, .inr (3, [.ref q_2, .ref q_3, .long g_5, .int g_6])), (q_2, .inl (cy 0, 16640, .inl g_7)), (q_3, .inl (cy 0, 512, .inl (fun _ => 0)))] ++ Y)) H := hP
    have hD : va_D A (CT cy a J I (va_up O 5 (some q_1)) R RO ([(q_1, .inr (3, [.ref q_2, .ref q_3, .long g_5, .int g_6])), (q_2, .inl (cy 0, 16640, .inl g_7)), (q_3, .inl (cy 0, 512, .inl (fun _ => 0)))] ++ Y)) := hD
    refine lv_aload_n hx hb dX9_knownLayings_38 rfl (lv_at hl 0 rfl) ?_
    refine va_get (D := D) (ci := 8) (v := .ref q_1) (C := RX9) (T := TX9) (N := 11) hx hb hts hi9 hown hK hP 0 rfl rfl 5 (by decide) hw0 (fun _ h9 => h9) rfl dX9_knownLayings_39 ?_
    exact wret_r hx hb hr hlocks (Or.inl ⟨_, rfl⟩) (q_2, q_3, g_5, g_6, g_7, (fun _ => 0)) ⟨hkn_8, (fun _ => by rw [hp_9]; exact hp_11), hp_9, (by rw [hp_9]; exact tab_tot hp_11)⟩ hP hD hS dX9_knownLayings_42
  · rw [h5] at hP hD
    refine lv_aload_n hx hb dX9_knownLayings_0 rfl (lv_at hl 0 rfl) ?_
    refine va_get (D := D) (ci := 8) (v := .ref b0) (C := RX9) (T := TX9) (N := 11) hx hb hts hi9 hown hK hP 0 rfl rfl 5 (by decide) hw0 (fun _ h9 => h9) rfl dX9_knownLayings_1 ?_
    refine lv_ifnonnull (tgt := 18) hx hb dX9_knownLayings_4 (by decide) ?_
    refine lv_aload_n hx hb dX9_knownLayings_18 rfl (lv_at hl 0 rfl) ?_
    refine va_get (D := D) (ci := 8) (v := .ref b0) (C := RX9) (T := TX9) (N := 11) hx hb hts hi9 hown hK hP 0 rfl rfl 5 (by decide) hw0 (fun _ h9 => h9) rfl dX9_knownLayings_19 ?_
    refine lv_aload_n hx hb dX9_knownLayings_22 rfl (lv_at hl 0 rfl) ?_
    refine va_get (D := D) (ci := 8) (v := .long (J 6)) (C := RX9) (T := TX9) (N := 11) hx hb hts hi9 hown hK hP 0 rfl rfl 6 (by decide) hw5 (fun _ h9 => h9) rfl dX9_knownLayings_23 ?_
    refine lv_aload_n hx hb dX9_knownLayings_26 rfl (lv_at hl 0 rfl) ?_
    refine kR_l (As := []) (rest := [.long (J 6), .ref b0]) (q0 := 0) ⟨hx, hb, hml, hown, hts⟩ (x_X9_gluedFields l D cy a _ J I (va_up O 5 (some b0)) R RO ([(b0, .inr (3, [.ref b1, .ref b2, .long jf, .int kn])), (b1, .inl (cy 0, 16640, .inl fw)), (b2, .inl (cy 0, 512, .inl fp))]) Y  fl S P hRA ⟨hM.1, hM.2.1, hM.2.2.1, hM.2.2.2.1, hM.2.2.2.2.1, hM.2.2.2.2.2.1, hM.2.2.2.2.2.2.1, hM.2.2.2.2.2.2.2.1, hRO0, hRO1, hRO2, hRO3⟩) (cwV 0 hts gX9_knownLayings_X9_gluedFields rfl rfl rfl (by decide +kernel) ⟨Nat.le_of_ble_eq_true rfl, Nat.le_of_ble_eq_true rfl⟩) hK hN hP hD rfl rfl rfl hl.1 rfl (Nat.le_of_ble_eq_true rfl) dX9_knownLayings_27 ⟨Nat.le_of_ble_eq_true rfl, Nat.le_of_ble_eq_true rfl⟩ ?_
    refine lv_ldc2 (v := (-1)) hx hb hown hw6 dX9_knownLayings_30 ?_
    refine lv_lxor hx hb dX9_knownLayings_33 ?_
    refine lv_land hx hb dX9_knownLayings_34 ?_
    refine kM_v (As := [.long ((J 6) &&& ((gOr 0 S) ^^^ (-1)))]) (rest := []) (q0 := 20) ⟨hx, hb, hml, hown, hts⟩ (t_X4_know l D cy a _ J I (va_up O 5 (some b0)) R RO b0 b1 b2 jf kn fw fp hkn Y ((J 6) &&& ((gOr 0 S) ^^^ (-1))) htb  ) (cwV 1 hts gX9_knownLayings_X4_know rfl rfl rfl (by decide +kernel) ⟨Nat.le_of_ble_eq_true rfl, Nat.le_of_ble_eq_true rfl⟩) hK hN hP hD hS hA rfl rfl rfl hl.1 rfl (Nat.le_of_ble_eq_true rfl) dX9_knownLayings_35 ⟨Nat.le_of_ble_eq_true rfl, Nat.le_of_ble_eq_true rfl⟩ (fun u H locs hw hP hD hS => ?_)
    obtain ⟨g_13, g_14, g_15, ⟨hkn_16, hp_17, hp_18, hp_19⟩, rfl⟩ := hw
    have hP : va_P D vwCl (CT cy a J I (va_up O 5 (some b0)) R RO ([(b0, .inr (3, [.ref b1, .ref b2, .long g_13, .int g_14])), (b1, .inl (cy 0, 16640, .inl g_15)), (b2, .inl (cy 0, 512, .inl fp))] ++ Y)) H := hP
    have hD : va_D A (CT cy a J I (va_up O 5 (some b0)) R RO ([(b0, .inr (3, [.ref b1, .ref b2, .long g_13, .int g_14])), (b1, .inl (cy 0, 16640, .inl g_15)), (b2, .inl (cy 0, 512, .inl fp))] ++ Y)) := hD
    refine lv_aload_n hx hb dX9_knownLayings_38 rfl (lv_at hl 0 rfl) ?_
    refine va_get (D := D) (ci := 8) (v := .ref b0) (C := RX9) (T := TX9) (N := 11) hx hb hts hi9 hown hK hP 0 rfl rfl 5 (by decide) hw0 (fun _ h9 => h9) rfl dX9_knownLayings_39 ?_
    refine W.widen (k := 3) (n := 17156) (Nat.le_of_ble_eq_true rfl) (Nat.le_of_ble_eq_true rfl) ?_
    exact wret_r hx hb hr hlocks (Or.inl ⟨_, rfl⟩) (b1, b2, g_13, g_14, g_15, fp) ⟨hkn_16, (fun _ => by rw [hp_17]; exact hp_19), hp_17, (by rw [hp_17]; exact tab_tot hp_19)⟩ hP hD hS dX9_knownLayings_42
