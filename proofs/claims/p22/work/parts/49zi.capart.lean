set_option maxHeartbeats 4000000 in
set_option maxRecDepth 100000 in
theorem x_X2_distance (l : Launch) (D : va_G) (cy : Nat → ClassId) (a : Nat → Nat) (sz : Nat) (J : Nat → Int64) (I : Nat → Int32) (O : Nat → Option Nat) (R : Nat → Nat → Int32) (RO : Nat → Nat → Option Nat) (LL : va_W) (Y : va_W)  : Met l yX2_distance wsX2_distance ({ frames := 1, cells := 0, slots := 0, locals := 29 }) (va_Pc [.ref (a 3)] (PW D cy sz (CT cy a J I O R RO (LL ++ Y)))) (vp_Si (fun r => r = (apS (R 4) (R 5) 81 / 4))) 0 0 (fun _ => False) := by
  refine Met.ofW (cc := cX2_distance) (maxL := 3) (ret := (some .int)) (by decide) rfl ?_
  intro p e s m args below meth c s₁ B hml hv
  obtain ⟨rfl, rfl, hP, hK, hN, hD0⟩ := hv
  have hx := B.exec
  have hb := B.bytes
  have hr := B.returns
  have hts := atoms_spec (ws := wsX2_distance) B.pre
  have hown : s.vm.findClass RX2 = some m.cls := findClass_of_methodNamed B.named
  have hlocks := B.notSynchronized
  have hw0 := hts (.fieldLink RX2 9 "ParquetLayer$Heights" "here" "[I") (by decide +kernel)
  have hw1 := hts (.fieldLink RX2 13 "ParquetLayer$Heights" "there" "[I") (by decide +kernel)
  have hw2 := hts (.methodLink RX2 73 Lib.Math.abs.name) (by decide +kernel)
  have hw3 := hts (.static Lib.Math.abs.name) (by decide +kernel)
  have hw4 := hts (.initialized "java/lang/Math") (by decide +kernel)
  have hw5 := hts (.code Lib.Math.abs.name Lib.Math.abs.code 1 (some .int)) (by decide +kernel)
  have hi2 := ihX2_distance_2
  have hD := hD0
  have hl := lv_entry ([.ref (a 3)]) (n := 3) (Nat.le_of_ble_eq_true rfl)
  rw [lg_entry_eq]
  generalize (lg_sl ([.ref (a 3)]) ++ List.replicate (3 - (lg_sl ([.ref (a 3)])).length) Slot.unset).toArray = ls at hl ⊢
  have hl : lv_has ls 3 [(0, .ref (a 3))] := hl
  have lp4 : ∀ (n4 : Nat), ∀ (i : Nat) (v1_4 : Int32), (i ≤ 81) → (v1_4 = apS (R 4) (R 5) i) → (81 - i) < n4 → ∀ (ls : Array Slot), lv_has ls 3 [(0, .ref (a 3)), (1, .int v1_4), (2, .int (nI i))] → W p l e (headSpec wsX2_distance ({ frames := 1, cells := 0, slots := 0, locals := 29 })).room s m ([.ref (a 3)] : List Value).toArray below meth c s.heap [] 0 0 (MQ below (vp_Si (fun r => r = (apS (R 4) (R 5) 81 / 4))) ([.ref (a 3)] : List Value).toArray s 0 0 (fun _ => False)) (F0 m 4 ls []) := by
    intro n4
    induction n4 with
    | zero => intro i v1_4 hi hsm hn; exact absurd hn (Nat.not_lt_zero _)
    | succ n4 ih4 =>
      intro i v1_4 hi hsm hn4 ls hl
      refine lv_iload_n hx hb dX2_distance_4 rfl (lv_at hl 2 rfl) ?_
      refine lv_bipush (v := 81) hx hb dX2_distance_5 (by decide) ?_
      refine lv_icmp_ge (tgt := 35) hx hb dX2_distance_7 (by decide) (fun c_1 => ?_) (fun c_1 => ?_)
      · have hie_i := ctr_ge (N := 81) (by decide) hi c_1
        refine lv_iload_n hx hb dX2_distance_35 rfl (lv_at hl 1 rfl) ?_
        refine lv_iconst (v := 4) hx hb dX2_distance_36 (by decide) ?_
        refine lv_idiv hx hb dX2_distance_37 (by decide) ?_
        exact pret_i hx hb hr hlocks (by rw [hsm, hie_i]) dX2_distance_38
      · have hlt_i := ctr_lt (N := 81) (by decide) hi c_1
        refine lv_iload_n hx hb dX2_distance_10 rfl (lv_at hl 1 rfl) ?_
        refine lv_aload_n hx hb dX2_distance_11 rfl (lv_at hl 0 rfl) ?_
        refine va_get (D := D) (ci := 1) (v := .ref (a 4)) (C := RX2) (T := TX2) (N := 5) hx hb hts hi2 hown hK hP 3 rfl rfl 0 (by decide) hw0 (fun _ h9 => h9) rfl dX2_distance_12 ?_
        refine lv_iload_n hx hb dX2_distance_15 rfl (lv_at hl 2 rfl) ?_
        refine va_iald hx hb hK hP 4 0 rfl rfl (vp_in_nI hlt_i (by decide)) dX2_distance_16 ?_
        refine lv_aload_n hx hb dX2_distance_17 rfl (lv_at hl 0 rfl) ?_
        refine va_get (D := D) (ci := 1) (v := .ref (a 5)) (C := RX2) (T := TX2) (N := 5) hx hb hts hi2 hown hK hP 3 rfl rfl 1 (by decide) hw1 (fun _ h9 => h9) rfl dX2_distance_18 ?_
        refine lv_iload_n hx hb dX2_distance_21 rfl (lv_at hl 2 rfl) ?_
        refine va_iald hx hb hK hP 5 0 rfl rfl (vp_in_nI hlt_i (by decide)) dX2_distance_22 ?_
        refine lv_isub hx hb dX2_distance_23 ?_
        refine va_mabs hx hb (by rw [hml]; exact hl.1.symm) hown hw2 hw3 hw4 hw5 (Nat.le_of_ble_eq_true rfl) (Nat.le_of_ble_eq_true rfl) (Nat.le_of_ble_eq_true rfl) (Nat.le_of_ble_eq_true rfl) dX2_distance_24 ?_
        refine lv_iadd hx hb dX2_distance_27 ?_
        refine lv_istore_n (lv' := [(1, .int (v1_4 + (if 0 ≤ (((R 4) (nI i).toNatClampNeg) - ((R 5) (nI i).toNatClampNeg)) then (((R 4) (nI i).toNatClampNeg) - ((R 5) (nI i).toNatClampNeg)) else 0 - (((R 4) (nI i).toNatClampNeg) - ((R 5) (nI i).toNatClampNeg))))), (0, .ref (a 3)), (2, .int (nI i))]) hx hb dX2_distance_28 rfl hl (by decide) rfl (fun ls hl => ?_)
        refine lv_iinc (v := nI (i + 1)) (lv' := [(2, .int (nI (i + 1))), (1, .int (v1_4 + (if 0 ≤ (((R 4) (nI i).toNatClampNeg) - ((R 5) (nI i).toNatClampNeg)) then (((R 4) (nI i).toNatClampNeg) - ((R 5) (nI i).toNatClampNeg)) else 0 - (((R 4) (nI i).toNatClampNeg) - ((R 5) (nI i).toNatClampNeg))))), (0, .ref (a 3))]) hx hb dX2_distance_29 hl (k := 2) rfl (nI_1 _) (by decide) rfl (fun ls hl => ?_)
        refine lv_goto (tgt := 4) hx hb dX2_distance_32 (by decide) ?_
        exact ih4 (i + 1) (v1_4 + (if 0 ≤ (((R 4) (nI i).toNatClampNeg) - ((R 5) (nI i).toNatClampNeg)) then (((R 4) (nI i).toNatClampNeg) - ((R 5) (nI i).toNatClampNeg)) else 0 - (((R 4) (nI i).toNatClampNeg) - ((R 5) (nI i).toNatClampNeg)))) hlt_i (apS_s hlt_i hsm) (lt_dec hlt_i hn4) ls (lv_sub hl [2, 1, 0] rfl)
  refine lv_iconst (v := 0) hx hb dX2_distance_0 (by decide) ?_
  refine lv_istore_n (lv' := [(1, .int 0), (0, .ref (a 3))]) hx hb dX2_distance_1 rfl hl (by decide) rfl (fun ls hl => ?_)
  refine lv_iconst (v := 0) hx hb dX2_distance_2 (by decide) ?_
  refine lv_istore_n (lv' := [(2, .int 0), (1, .int 0), (0, .ref (a 3))]) hx hb dX2_distance_3 rfl hl (by decide) rfl (fun ls hl => ?_)
  exact lp4 _ 0 (0 : Int32) (Nat.zero_le _) rfl (Nat.lt_succ_self _) ls (lv_sub hl [2, 1, 0] rfl)
set_option maxHeartbeats 4000000 in
set_option maxRecDepth 100000 in
theorem x_X9_measureBoth (l : Launch) (D : va_G) (cy : Nat → ClassId) (a : Nat → Nat) (sz : Nat) (J : Nat → Int64) (I : Nat → Int32) (O : Nat → Option Nat) (R : Nat → Nat → Int32) (RO : Nat → Nat → Option Nat) (LL : va_W) (Y : va_W) (x0 : Nat) (y0 : Int32) (al0 ac0 : Int64) (hm0 : laC x0 y0 al0 ac0 ∈ Y) (x1 : Nat) (y1 : Int32) (al1 ac1 : Int64) (hm1 : laC x1 y1 al1 ac1 ∈ Y) (hQ : ∀ i, i < 81 → vp_in (R 6 i) 81) (hl0 : LY (bfx (J 6)) (bfx al0) (bfx ac0)) (hl1 : LY (bfx (J 6)) (bfx al1) (bfx ac1)) (hwo : cFr (mOut (J 6)) A10 100 = 1 ∧ aPc (J 6) = 1) : Met l yX9_measureBoth wsX9_measureBoth ({ frames := 4, cells := 0, slots := 0, locals := 97 }) (va_Pc [.ref (a 0), .ref x0, .ref x1] (PW D cy sz (CT cy a J I O R RO (LL ++ Y)))) (va_Qv (fun (u : TS) => ∃ (w0 : Int32), ∃ (w1 : Option Nat), ∃ (w2 : Nat → Int32), ∃ (w3 : Nat → Int32), ∃ (w4 : Nat → Int32), ((∀ i, i < 81 → vp_in (w4 i) 81) ∧ (hVal (J 6) al0 ac0 (zF0 (J 6)) 1000 w2) ∧ (hVal (J 6) al1 ac1 (zF0 (J 6)) 1000 w3) ∧ (∀ r, r < 81 → hpt (bfx (J 6)) r = true → -100 ≤ (w2 r).toInt ∧ (w2 r).toInt ≤ 100) ∧ (∀ r, r < 81 → hpt (bfx (J 6)) r = true → -100 ≤ (w3 r).toInt ∧ (w3 r).toInt ≤ 100)) ∧ u = (J, (va_up I 99 w0), (va_up O 100 w1), (va_up (va_up (va_up R 4 w2) 5 w3) 6 w4), RO, LL, Y)) (BW D (va_A (CT cy a J I O R RO (LL ++ Y)) sz) (CTu cy a)) (va_A (CT cy a J I O R RO (LL ++ Y)) sz)) 0 0 (va_A (CT cy a J I O R RO (LL ++ Y)) sz) := by
  refine Met.ofW (cc := cX9_measureBoth) (maxL := 3) (ret := none) (by decide) rfl ?_
  intro p e s m args below meth c s₁ B hml hv
  obtain ⟨rfl, rfl, hP, hK, hN, hD0⟩ := hv
  have hx := B.exec
  have hb := B.bytes
  have hr := B.returns
  have hts := atoms_spec (ws := wsX9_measureBoth) B.pre
  have hown : s.vm.findClass RX9 = some m.cls := findClass_of_methodNamed B.named
  have hlocks := B.notSynchronized
  have hw0 := hts (.fieldLink RX9 24 "ParquetLayer" "heights" "LParquetLayer$Heights;") (by decide +kernel)
  have hw1 := hts (.fieldLink RX9 48 "ParquetLayer" "fields" "J") (by decide +kernel)
  have hw2 := hts (.fieldLink RX9 230 "ParquetLayer$Heights" "here" "[I") (by decide +kernel)
  have hw3 := hts (.fieldLink RX9 252 "ParquetLayer$Heights" "there" "[I") (by decide +kernel)
  have hi2 := ihX9_measureBoth_2
  have hi9 := ihX9_measureBoth_9
  have hD := hD0.self (sz := s.heap.size)
  generalize hAe : va_A (CT cy a J I O R RO (LL ++ Y)) s.heap.size = A at hD ⊢
  have hA : ∀ q : Nat, s.heap.size ≤ q → A q := fun q h => by rw [← hAe]; exact Or.inr h
  have hS : va_S A s.heap s.heap [] := va_S.rf
  have hl := lv_entry ([.ref (a 0), .ref x0, .ref x1]) (n := 3) (Nat.le_of_ble_eq_true rfl)
  rw [lg_entry_eq]
  generalize (lg_sl ([.ref (a 0), .ref x0, .ref x1]) ++ List.replicate (3 - (lg_sl ([.ref (a 0), .ref x0, .ref x1])).length) Slot.unset).toArray = ls at hl ⊢
  have hl : lv_has ls 3 [(0, .ref (a 0)), (1, .ref x0), (2, .ref x1)] := hl
  have hP : va_P D vwCl (CT cy a J (va_up I 99 (I 99)) (va_up O 100 (O 100)) (va_up (va_up (va_up R 4 (R 4)) 5 (R 5)) 6 (R 6)) RO (LL ++ Y)) s.heap := hP
  have hD : va_D A (CT cy a J (va_up I 99 (I 99)) (va_up O 100 (O 100)) (va_up (va_up (va_up R 4 (R 4)) 5 (R 5)) 6 (R 6)) RO (LL ++ Y)) := hD
  refine lv_aload_n hx hb dX9_measureBoth_0 rfl (lv_at hl 0 rfl) ?_
  refine va_get (D := D) (ci := 8) (v := .ref (a 3)) (C := RX9) (T := TX9) (N := 11) hx hb hts hi9 hown hK hP 0 rfl rfl 2 (by decide) hw0 (fun _ h9 => h9) rfl dX9_measureBoth_1 ?_
  refine lv_aload_n hx hb dX9_measureBoth_4 rfl (lv_at hl 0 rfl) ?_
  refine va_get (D := D) (ci := 8) (v := .long (J 6)) (C := RX9) (T := TX9) (N := 11) hx hb hts hi9 hown hK hP 0 rfl rfl 6 (by decide) hw1 (fun _ h9 => h9) rfl dX9_measureBoth_5 ?_
  refine lv_aload_n hx hb dX9_measureBoth_8 rfl (lv_at hl 1 rfl) ?_
  refine lv_aload_n hx hb dX9_measureBoth_9 rfl (lv_at hl 0 rfl) ?_
  refine va_get (D := D) (ci := 8) (v := .ref (a 3)) (C := RX9) (T := TX9) (N := 11) hx hb hts hi9 hown hK hP 0 rfl rfl 2 (by decide) hw0 (fun _ h9 => h9) rfl dX9_measureBoth_10 ?_
  refine va_get (D := D) (ci := 1) (v := .ref (a 4)) (C := RX2) (T := TX2) (N := 5) hx hb hts hi2 hown hK hP 3 rfl rfl 0 (by decide) hw2 (fun _ h9 => h9) rfl dX9_measureBoth_13 ?_
  refine kM_v (As := [.long (J 6), .ref x0, .ref (a 4)]) (rest := []) (q0 := 3) ⟨hx, hb, hml, hown, hts⟩ (x_X2_measure4 l D cy a _ J (va_up I 99 (I 99)) (va_up O 100 (O 100)) (va_up (va_up (va_up R 4 (R 4)) 5 (R 5)) 6 (R 6)) RO LL Y (J 6) x0 y0 al0 ac0 hm0 hQ hl0 hwo  ) (cwV 3 hts gX9_measureBoth_X2_measure rfl rfl rfl (by decide +kernel) ⟨Nat.le_of_ble_eq_true rfl, Nat.le_of_ble_eq_true rfl⟩) hK hN hP hD hS hA rfl rfl rfl hl.1 rfl (Nat.le_of_ble_eq_true rfl) dX9_measureBoth_16 ⟨Nat.le_of_ble_eq_true rfl, Nat.le_of_ble_eq_true rfl⟩ (fun u H locs hw hP hD hS => ?_)
  obtain ⟨w_2, w_3, w_4, w_5, ⟨hp_6, hp_7, hp_8⟩, rfl⟩ := hw
  have hP : va_P D vwCl (CT cy a J (va_up I 99 w_2) (va_up O 100 w_3) (va_up (va_up (va_up R 4 w_4) 5 (R 5)) 6 w_5) RO (LL ++ Y)) H := hP
  have hD : va_D A (CT cy a J (va_up I 99 w_2) (va_up O 100 w_3) (va_up (va_up (va_up R 4 w_4) 5 (R 5)) 6 w_5) RO (LL ++ Y)) := hD
  refine lv_aload_n hx hb dX9_measureBoth_19 rfl (lv_at hl 0 rfl) ?_
  refine va_get (D := D) (ci := 8) (v := .ref (a 3)) (C := RX9) (T := TX9) (N := 11) hx hb hts hi9 hown hK hP 0 rfl rfl 2 (by decide) hw0 (fun _ h9 => h9) rfl dX9_measureBoth_20 ?_
  refine lv_aload_n hx hb dX9_measureBoth_23 rfl (lv_at hl 0 rfl) ?_
  refine va_get (D := D) (ci := 8) (v := .long (J 6)) (C := RX9) (T := TX9) (N := 11) hx hb hts hi9 hown hK hP 0 rfl rfl 6 (by decide) hw1 (fun _ h9 => h9) rfl dX9_measureBoth_24 ?_
  refine lv_aload_n hx hb dX9_measureBoth_27 rfl (lv_at hl 2 rfl) ?_
  refine lv_aload_n hx hb dX9_measureBoth_28 rfl (lv_at hl 0 rfl) ?_
  refine va_get (D := D) (ci := 8) (v := .ref (a 3)) (C := RX9) (T := TX9) (N := 11) hx hb hts hi9 hown hK hP 0 rfl rfl 2 (by decide) hw0 (fun _ h9 => h9) rfl dX9_measureBoth_29 ?_
  refine va_get (D := D) (ci := 1) (v := .ref (a 5)) (C := RX2) (T := TX2) (N := 5) hx hb hts hi2 hown hK hP 3 rfl rfl 1 (by decide) hw3 (fun _ h9 => h9) rfl dX9_measureBoth_32 ?_
  refine kM_v (As := [.long (J 6), .ref x1, .ref (a 5)]) (rest := []) (q0 := 3) ⟨hx, hb, hml, hown, hts⟩ (x_X2_measure5 l D cy a _ J (va_up I 99 w_2) (va_up O 100 w_3) (va_up (va_up (va_up R 4 w_4) 5 (R 5)) 6 w_5) RO LL Y (J 6) x1 y1 al1 ac1 hm1 hp_6 hl1 hwo  ) (cwV 3 hts gX9_measureBoth_X2_measure rfl rfl rfl (by decide +kernel) ⟨Nat.le_of_ble_eq_true rfl, Nat.le_of_ble_eq_true rfl⟩) hK hN hP hD hS hA rfl rfl rfl hl.1 rfl (Nat.le_of_ble_eq_true rfl) dX9_measureBoth_35 ⟨Nat.le_of_ble_eq_true rfl, Nat.le_of_ble_eq_true rfl⟩ (fun u H locs hw hP hD hS => ?_)
  obtain ⟨w_10, w_11, w_12, w_13, ⟨hp_14, hp_15, hp_16⟩, rfl⟩ := hw
  have hP : va_P D vwCl (CT cy a J (va_up I 99 w_10) (va_up O 100 w_11) (va_up (va_up (va_up R 4 w_4) 5 w_12) 6 w_13) RO (LL ++ Y)) H := hP
  have hD : va_D A (CT cy a J (va_up I 99 w_10) (va_up O 100 w_11) (va_up (va_up (va_up R 4 w_4) 5 w_12) 6 w_13) RO (LL ++ Y)) := hD
  exact wret_v hx hb hr hlocks (J, (va_up I 99 w_10), (va_up O 100 w_11), (va_up (va_up (va_up R 4 w_4) 5 w_12) 6 w_13), RO, LL, Y) ⟨w_10, w_11, w_4, w_12, w_13, ⟨hp_14, hp_7, hp_15, hp_8, hp_16⟩, rfl⟩ hP hD hS dX9_measureBoth_38
set_option maxHeartbeats 4000000 in
set_option maxRecDepth 100000 in
theorem x_X9_apart (l : Launch) (D : va_G) (cy : Nat → ClassId) (a : Nat → Nat) (sz : Nat) (J : Nat → Int64) (I : Nat → Int32) (O : Nat → Option Nat) (R : Nat → Nat → Int32) (RO : Nat → Nat → Option Nat) (LL : va_W) (Y : va_W) (x0 : Int32) (x1 : Int32) (hQ : ∀ i, i < 81 → vp_in (R 6 i) 81) (fl : Int64) (S : List Int32) (P : List PE) (hRA : RCf Y (J 6) (O 7) (I 9) (RO 2) fl S P) (hM : CI a Y I O RO) (hL : LOK cy (O 5) LL) : Met l yX9_apart wsX9_apart ({ frames := 6, cells := 14, slots := 68630, locals := 145 }) (va_Pc [.ref (a 0), .int x0, .int x1] (PW D cy sz (CT cy a J I O R RO (LL ++ Y)))) (va_Qi (fun r (u : TS) => ∃ (w0 : Int32), ∃ (w1 : Int32), ∃ (w2 : Option Nat), ∃ (w3 : Option Nat), ∃ (w4 : Nat → Int32), ∃ (w5 : Nat → Int32), ∃ (w6 : Nat → Int32), ∃ (LL9 : va_W), ∃ (Y9 : va_W), (r = (aApa fl S x0 x1) ∧ (∀ c, c ∈ Y → c ∈ Y9) ∧ LOK cy w2 LL9 ∧ (∀ i, i < 81 → vp_in (w6 i) 81)) ∧ u = (J, (va_up (va_up I 10 w0) 99 w1), (va_up (va_up O 5 w2) 100 w3), (va_up (va_up (va_up R 4 w4) 5 w5) 6 w6), RO, LL9, Y9)) (BW D (va_A (CT cy a J I O R RO (LL ++ Y)) sz) (CTu cy a)) (va_A (CT cy a J I O R RO (LL ++ Y)) sz)) 14 68630 (va_A (CT cy a J I O R RO (LL ++ Y)) sz) := by
  refine Met.ofW (cc := cX9_apart) (maxL := 3) (ret := (some .int)) (by decide) rfl ?_
  intro p e s m args below meth c s₁ B hml hv
  obtain ⟨rfl, rfl, hP, hK, hN, hD0⟩ := hv
  have hx := B.exec
  have hb := B.bytes
  have hr := B.returns
  have hts := atoms_spec (ws := wsX9_apart) B.pre
  have hown : s.vm.findClass RX9 = some m.cls := findClass_of_methodNamed B.named
  have hlocks := B.notSynchronized
  have hw0 := hts (.constant RX9 43 (-100001)) (by decide +kernel)
  have hw1 := hts (.fieldLink RX9 24 "ParquetLayer" "heights" "LParquetLayer$Heights;") (by decide +kernel)
  have hw2 := hts (.constant RX9 128 (-100004)) (by decide +kernel)
  have hi9 := ihX9_apart_9
  have hD := hD0.self (sz := s.heap.size)
  generalize hAe : va_A (CT cy a J I O R RO (LL ++ Y)) s.heap.size = A at hD ⊢
  have hA : ∀ q : Nat, s.heap.size ≤ q → A q := fun q h => by rw [← hAe]; exact Or.inr h
  have hS : va_S A s.heap s.heap [] := va_S.rf
  have hl := lv_entry ([.ref (a 0), .int x0, .int x1]) (n := 3) (Nat.le_of_ble_eq_true rfl)
  rw [lg_entry_eq]
  generalize (lg_sl ([.ref (a 0), .int x0, .int x1]) ++ List.replicate (3 - (lg_sl ([.ref (a 0), .int x0, .int x1])).length) Slot.unset).toArray = ls at hl ⊢
  have hl : lv_has ls 3 [(0, .ref (a 0)), (1, .int x0), (2, .int x1)] := hl
  have hRO0 := hM.2.2.2.2.2.2.2.2.1
  have hRO1 := hM.2.2.2.2.2.2.2.2.2.1
  have hRO2 := hM.2.2.2.2.2.2.2.2.2.2.1
  have hRO3 := hM.2.2.2.2.2.2.2.2.2.2.2
  have hP : va_P D vwCl (CT cy a J (va_up (va_up I 10 (I 10)) 99 (I 99)) (va_up (va_up O 5 (O 5)) 100 (O 100)) (va_up (va_up (va_up R 4 (R 4)) 5 (R 5)) 6 (R 6)) RO (LL ++ Y)) s.heap := hP
  have hD : va_D A (CT cy a J (va_up (va_up I 10 (I 10)) 99 (I 99)) (va_up (va_up O 5 (O 5)) 100 (O 100)) (va_up (va_up (va_up R 4 (R 4)) 5 (R 5)) 6 (R 6)) RO (LL ++ Y)) := hD
  refine lv_aload_n hx hb dX9_apart_0 rfl (lv_at hl 0 rfl) ?_
  refine kR_i (As := []) (rest := []) (q0 := 0) ⟨hx, hb, hml, hown, hts⟩ (x_X9_isWhole l D cy a _ J (va_up (va_up I 10 (I 10)) 99 (I 99)) (va_up (va_up O 5 (O 5)) 100 (O 100)) (va_up (va_up (va_up R 4 (R 4)) 5 (R 5)) 6 (R 6)) RO LL Y  fl S P hRA ⟨hM.1, hM.2.1, hM.2.2.1, hM.2.2.2.1, hM.2.2.2.2.1, hM.2.2.2.2.2.1, hM.2.2.2.2.2.2.1, hM.2.2.2.2.2.2.2.1, hRO0, hRO1, hRO2, hRO3⟩) (cwV 0 hts gX9_apart_X9_isWhole rfl rfl rfl (by decide +kernel) ⟨Nat.le_of_ble_eq_true rfl, Nat.le_of_ble_eq_true rfl⟩) hK hN hP hD rfl rfl rfl hl.1 rfl (Nat.le_of_ble_eq_true rfl) dX9_apart_1 ⟨Nat.le_of_ble_eq_true rfl, Nat.le_of_ble_eq_true rfl⟩ ?_
  refine lv_if_ne (tgt := 14) hx hb dX9_apart_4 (by decide) (fun c_1 => ?_) (fun c_1 => ?_)
  · replace c_1 := bI_t c_1
    refine lv_aload_n hx hb dX9_apart_14 rfl (lv_at hl 0 rfl) ?_
    refine lv_iload_n hx hb dX9_apart_15 rfl (lv_at hl 1 rfl) ?_
    refine kM_i (As := [.int x0]) (rest := []) (q0 := 0) ⟨hx, hb, hml, hown, hts⟩ (x_X9_isLaying l D cy a _ J (va_up (va_up I 10 (I 10)) 99 (I 99)) (va_up (va_up O 5 (O 5)) 100 (O 100)) (va_up (va_up (va_up R 4 (R 4)) 5 (R 5)) 6 (R 6)) RO LL Y x0 fl S P hRA ⟨hM.1, hM.2.1, hM.2.2.1, hM.2.2.2.1, hM.2.2.2.2.1, hM.2.2.2.2.2.1, hM.2.2.2.2.2.2.1, hM.2.2.2.2.2.2.2.1, hRO0, hRO1, hRO2, hRO3⟩ hL) (cwV 1 hts gX9_apart_X9_isLaying rfl rfl rfl (by decide +kernel) ⟨Nat.le_of_ble_eq_true rfl, Nat.le_of_ble_eq_true rfl⟩) hK hN hP hD hS hA rfl rfl rfl hl.1 rfl (Nat.le_of_ble_eq_true rfl) dX9_apart_16 ⟨Nat.le_of_ble_eq_true rfl, Nat.le_of_ble_eq_true rfl⟩ (fun r_2 u H locs hw hP hD hS => ?_)
    obtain ⟨w_3, LL_4, ⟨rfl, hL_5⟩, rfl⟩ := hw
    have hP : va_P D vwCl (CT cy a J (va_up (va_up I 10 (I 10)) 99 (I 99)) (va_up (va_up O 5 w_3) 100 (O 100)) (va_up (va_up (va_up R 4 (R 4)) 5 (R 5)) 6 (R 6)) RO (LL_4 ++ Y)) H := hP
    have hD : va_D A (CT cy a J (va_up (va_up I 10 (I 10)) 99 (I 99)) (va_up (va_up O 5 w_3) 100 (O 100)) (va_up (va_up (va_up R 4 (R 4)) 5 (R 5)) 6 (R 6)) RO (LL_4 ++ Y)) := hD
    refine lv_if_eq (tgt := 30) hx hb dX9_apart_19 (by decide) (fun c_6 => ?_) (fun c_6 => ?_)
    · replace c_6 := bI_f c_6
      refine lv_aload_n hx hb dX9_apart_30 rfl (lv_at hl 0 rfl) ?_
      refine lv_ldc (v := (-100001)) hx hb hown hw0 dX9_apart_31 ?_
      refine kM_i (As := [.int (-100001)]) (rest := []) (q0 := 0) ⟨hx, hb, hml, hown, hts⟩ (t_X9_finding l D cy a _ J (va_up (va_up I 10 (I 10)) 99 (I 99)) (va_up (va_up O 5 w_3) 100 (O 100)) (va_up (va_up (va_up R 4 (R 4)) 5 (R 5)) 6 (R 6)) RO LL_4 Y ((-100001) : Int32)   ) (cwV 1 hts gX9_apart_X9_finding rfl rfl rfl (by decide +kernel) ⟨Nat.le_of_ble_eq_true rfl, Nat.le_of_ble_eq_true rfl⟩) hK hN hP hD hS hA rfl rfl rfl hl.1 rfl (Nat.le_of_ble_eq_true rfl) dX9_apart_33 ⟨Nat.le_of_ble_eq_true rfl, Nat.le_of_ble_eq_true rfl⟩ (fun r_7 u H locs hw hP hD hS => ?_)
      obtain ⟨w_8, rfl, rfl⟩ := hw
      have hP : va_P D vwCl (CT cy a J (va_up (va_up I 10 w_8) 99 (I 99)) (va_up (va_up O 5 w_3) 100 (O 100)) (va_up (va_up (va_up R 4 (R 4)) 5 (R 5)) 6 (R 6)) RO (LL_4 ++ Y)) H := hP
      have hD : va_D A (CT cy a J (va_up (va_up I 10 w_8) 99 (I 99)) (va_up (va_up O 5 w_3) 100 (O 100)) (va_up (va_up (va_up R 4 (R 4)) 5 (R 5)) 6 (R 6)) RO (LL_4 ++ Y)) := hD
      refine W.widen (k := 14) (n := 68630) (Nat.le_of_ble_eq_true rfl) (Nat.le_of_ble_eq_true rfl) ?_
      exact wret_i hx hb hr hlocks (J, (va_up (va_up I 10 w_8) 99 (I 99)), (va_up (va_up O 5 w_3) 100 (O 100)), (va_up (va_up (va_up R 4 (R 4)) 5 (R 5)) 6 (R 6)), RO, LL_4, Y) ⟨w_8, (I 99), w_3, (O 100), (R 4), (R 5), (R 6), LL_4, Y, ⟨(ap_k (ag_1 c_1 c_6) (by decide)), (fun _ h => h), hL_5, hQ⟩, rfl⟩ hP hD hS dX9_apart_36
    · replace c_6 := bI_t c_6
      refine lv_aload_n hx hb dX9_apart_22 rfl (lv_at hl 0 rfl) ?_
      refine lv_iload_n hx hb dX9_apart_23 rfl (lv_at hl 2 rfl) ?_
      refine kM_i (As := [.int x1]) (rest := []) (q0 := 0) ⟨hx, hb, hml, hown, hts⟩ (x_X9_isLaying l D cy a _ J (va_up (va_up I 10 (I 10)) 99 (I 99)) (va_up (va_up O 5 w_3) 100 (O 100)) (va_up (va_up (va_up R 4 (R 4)) 5 (R 5)) 6 (R 6)) RO LL_4 Y x1 fl S P hRA ⟨hM.1, hM.2.1, hM.2.2.1, hM.2.2.2.1, hM.2.2.2.2.1, hM.2.2.2.2.2.1, hM.2.2.2.2.2.2.1, hM.2.2.2.2.2.2.2.1, hRO0, hRO1, hRO2, hRO3⟩ hL_5) (cwV 1 hts gX9_apart_X9_isLaying rfl rfl rfl (by decide +kernel) ⟨Nat.le_of_ble_eq_true rfl, Nat.le_of_ble_eq_true rfl⟩) hK hN hP hD hS hA rfl rfl rfl hl.1 rfl (Nat.le_of_ble_eq_true rfl) dX9_apart_24 ⟨Nat.le_of_ble_eq_true rfl, Nat.le_of_ble_eq_true rfl⟩ (fun r_9 u H locs hw hP hD hS => ?_)
      obtain ⟨w_10, LL_11, ⟨rfl, hL_12⟩, rfl⟩ := hw
      have hP : va_P D vwCl (CT cy a J (va_up (va_up I 10 (I 10)) 99 (I 99)) (va_up (va_up O 5 w_10) 100 (O 100)) (va_up (va_up (va_up R 4 (R 4)) 5 (R 5)) 6 (R 6)) RO (LL_11 ++ Y)) H := hP
      have hD : va_D A (CT cy a J (va_up (va_up I 10 (I 10)) 99 (I 99)) (va_up (va_up O 5 w_10) 100 (O 100)) (va_up (va_up (va_up R 4 (R 4)) 5 (R 5)) 6 (R 6)) RO (LL_11 ++ Y)) := hD
      refine lv_if_ne (tgt := 37) hx hb dX9_apart_27 (by decide) (fun c_13 => ?_) (fun c_13 => ?_)
      · replace c_13 := bI_t c_13
        obtain ⟨na, ea, hza⟩ := ic_nat (wh_ng c_1) c_6
        obtain ⟨nb, eb, hzb⟩ := ic_nat (wh_ng c_1) c_13
        rw [ea, eb] at hl
        refine lv_aload_n hx hb dX9_apart_37 rfl (lv_at hl 0 rfl) ?_
        refine lv_aload_n hx hb dX9_apart_38 rfl (lv_at hl 0 rfl) ?_
        refine lv_iload_n hx hb dX9_apart_39 rfl (lv_at hl 1 rfl) ?_
        refine kM_r (As := [.int (nI na)]) (rest := [.ref (a 0)]) (q0 := 0) ⟨hx, hb, hml, hown, hts⟩ (y_X9_layingOf l D cy a _ J (va_up (va_up I 10 (I 10)) 99 (I 99)) (va_up (va_up O 5 w_10) 100 (O 100)) (va_up (va_up (va_up R 4 (R 4)) 5 (R 5)) 6 (R 6)) RO LL_11 Y na fl S P hRA (wh_ng c_1) (show zIn (bfx fl) na from hza) ⟨hM.1, hM.2.1, hM.2.2.1, hM.2.2.2.1, hM.2.2.2.2.1, hM.2.2.2.2.2.1, hM.2.2.2.2.2.2.1, hM.2.2.2.2.2.2.2.1, hRO0, hRO1, hRO2, hRO3⟩ hL_12) (cwV 1 hts gX9_apart_X9_layingOf rfl rfl rfl (by decide +kernel) ⟨Nat.le_of_ble_eq_true rfl, Nat.le_of_ble_eq_true rfl⟩) hK hN hP hD hS hA rfl rfl rfl hl.1 rfl (Nat.le_of_ble_eq_true rfl) dX9_apart_40 ⟨Nat.le_of_ble_eq_true rfl, Nat.le_of_ble_eq_true rfl⟩ (fun u r_14 H locs hw hP hD hS => ?_)
        obtain ⟨g_15, g_16⟩ := u
        have hL_17 : LOK cy g_15 g_16 := hw
        have hs_18 : ∀ c, c ∈ Y → c ∈ (Y ++ [laC r_14 (nI na) (zLy fl na).1 (zLy fl na).2]) := fun c h => List.mem_append_left _ h
        have hi_19 : chO (Y ++ [laC r_14 (nI na) (zLy fl na).1 (zLy fl na).2]) (O 7) := chO_mono hs_18 hM.2.1
        have hi_20 : layO (Y ++ [laC r_14 (nI na) (zLy fl na).1 (zLy fl na).2]) (O 8) := layO_mono hs_18 hM.2.2.1
        have hi_21 : ∀ i, i < 20 → pasO (Y ++ [laC r_14 (nI na) (zLy fl na).1 (zLy fl na).2]) ((RO 2) i) := pas_mono hs_18 hM.2.2.2.1
        have hmono_22 : ∀ c, c ∈ Y → c ∈ (Y ++ [laC r_14 (nI na) (zLy fl na).1 (zLy fl na).2]) := fun c h => hs_18 c ((fun _ h => h) c h)
        have hP : va_P D vwCl (CT cy a J (va_up (va_up I 10 (I 10)) 99 (I 99)) (va_up (va_up O 5 g_15) 100 (O 100)) (va_up (va_up (va_up R 4 (R 4)) 5 (R 5)) 6 (R 6)) RO (g_16 ++ (Y ++ [laC r_14 (nI na) (zLy fl na).1 (zLy fl na).2]))) H := hP
        have hD : va_D A (CT cy a J (va_up (va_up I 10 (I 10)) 99 (I 99)) (va_up (va_up O 5 g_15) 100 (O 100)) (va_up (va_up (va_up R 4 (R 4)) 5 (R 5)) 6 (R 6)) RO (g_16 ++ (Y ++ [laC r_14 (nI na) (zLy fl na).1 (zLy fl na).2]))) := hD
        refine lv_aload_n hx hb dX9_apart_43 rfl (lv_at hl 0 rfl) ?_
        refine lv_iload_n hx hb dX9_apart_44 rfl (lv_at hl 2 rfl) ?_
        refine kM_r (As := [.int (nI nb)]) (rest := [.ref r_14, .ref (a 0)]) (q0 := 0) ⟨hx, hb, hml, hown, hts⟩ (y_X9_layingOf l D cy a _ J (va_up (va_up I 10 (I 10)) 99 (I 99)) (va_up (va_up O 5 g_15) 100 (O 100)) (va_up (va_up (va_up R 4 (R 4)) 5 (R 5)) 6 (R 6)) RO g_16 (Y ++ [laC r_14 (nI na) (zLy fl na).1 (zLy fl na).2]) nb fl S P (RCf_mono hmono_22 hRA) (wh_ng c_1) (show zIn (bfx fl) nb from hzb) ⟨hM.1, hi_19, hi_20, hi_21, hM.2.2.2.2.1, hM.2.2.2.2.2.1, hM.2.2.2.2.2.2.1, hM.2.2.2.2.2.2.2.1, hRO0, hRO1, hRO2, hRO3⟩ hL_17) (cwV 1 hts gX9_apart_X9_layingOf rfl rfl rfl (by decide +kernel) ⟨Nat.le_of_ble_eq_true rfl, Nat.le_of_ble_eq_true rfl⟩) hK hN hP hD hS hA rfl rfl rfl hl.1 rfl (Nat.le_of_ble_eq_true rfl) dX9_apart_45 ⟨Nat.le_of_ble_eq_true rfl, Nat.le_of_ble_eq_true rfl⟩ (fun u r_23 H locs hw hP hD hS => ?_)
        obtain ⟨g_24, g_25⟩ := u
        have hL_26 : LOK cy g_24 g_25 := hw
        have hs_27 : ∀ c, c ∈ (Y ++ [laC r_14 (nI na) (zLy fl na).1 (zLy fl na).2]) → c ∈ ((Y ++ [laC r_14 (nI na) (zLy fl na).1 (zLy fl na).2]) ++ [laC r_23 (nI nb) (zLy fl nb).1 (zLy fl nb).2]) := fun c h => List.mem_append_left _ h
        have hi_28 : chO ((Y ++ [laC r_14 (nI na) (zLy fl na).1 (zLy fl na).2]) ++ [laC r_23 (nI nb) (zLy fl nb).1 (zLy fl nb).2]) (O 7) := chO_mono hs_27 hi_19
        have hi_29 : layO ((Y ++ [laC r_14 (nI na) (zLy fl na).1 (zLy fl na).2]) ++ [laC r_23 (nI nb) (zLy fl nb).1 (zLy fl nb).2]) (O 8) := layO_mono hs_27 hi_20
        have hi_30 : ∀ i, i < 20 → pasO ((Y ++ [laC r_14 (nI na) (zLy fl na).1 (zLy fl na).2]) ++ [laC r_23 (nI nb) (zLy fl nb).1 (zLy fl nb).2]) ((RO 2) i) := pas_mono hs_27 hi_21
        have hmono_31 : ∀ c, c ∈ Y → c ∈ ((Y ++ [laC r_14 (nI na) (zLy fl na).1 (zLy fl na).2]) ++ [laC r_23 (nI nb) (zLy fl nb).1 (zLy fl nb).2]) := fun c h => hs_27 c (hmono_22 c h)
        have hP : va_P D vwCl (CT cy a J (va_up (va_up I 10 (I 10)) 99 (I 99)) (va_up (va_up O 5 g_24) 100 (O 100)) (va_up (va_up (va_up R 4 (R 4)) 5 (R 5)) 6 (R 6)) RO (g_25 ++ ((Y ++ [laC r_14 (nI na) (zLy fl na).1 (zLy fl na).2]) ++ [laC r_23 (nI nb) (zLy fl nb).1 (zLy fl nb).2]))) H := hP
        have hD : va_D A (CT cy a J (va_up (va_up I 10 (I 10)) 99 (I 99)) (va_up (va_up O 5 g_24) 100 (O 100)) (va_up (va_up (va_up R 4 (R 4)) 5 (R 5)) 6 (R 6)) RO (g_25 ++ ((Y ++ [laC r_14 (nI na) (zLy fl na).1 (zLy fl na).2]) ++ [laC r_23 (nI nb) (zLy fl nb).1 (zLy fl nb).2]))) := hD
        refine kM_v (As := [.ref r_14, .ref r_23]) (rest := []) (q0 := 0) ⟨hx, hb, hml, hown, hts⟩ (x_X9_measureBoth l D cy a _ J (va_up (va_up I 10 (I 10)) 99 (I 99)) (va_up (va_up O 5 g_24) 100 (O 100)) (va_up (va_up (va_up R 4 (R 4)) 5 (R 5)) 6 (R 6)) RO g_25 ((Y ++ [laC r_14 (nI na) (zLy fl na).1 (zLy fl na).2]) ++ [laC r_23 (nI nb) (zLy fl nb).1 (zLy fl nb).2]) r_14 (nI na) ((zLy fl na).1) ((zLy fl na).2) (hs_27 _ mem_last) r_23 (nI nb) ((zLy fl nb).1) ((zLy fl nb).2) mem_last hQ (show LY (bfx (J 6)) (bfx (zLy fl na).1) (bfx (zLy fl na).2) by rw [hRA.1]; exact zLy_LY hza) (show LY (bfx (J 6)) (bfx (zLy fl nb).1) (bfx (zLy fl nb).2) by rw [hRA.1]; exact zLy_LY hzb) (wh_oJ hRA.1 c_1)  ) (cwV 2 hts gX9_apart_X9_measureBoth rfl rfl rfl (by decide +kernel) ⟨Nat.le_of_ble_eq_true rfl, Nat.le_of_ble_eq_true rfl⟩) hK hN hP hD hS hA rfl rfl rfl hl.1 rfl (Nat.le_of_ble_eq_true rfl) dX9_apart_48 ⟨Nat.le_of_ble_eq_true rfl, Nat.le_of_ble_eq_true rfl⟩ (fun u H locs hw hP hD hS => ?_)
        obtain ⟨w_33, w_34, w_35, w_36, w_37, ⟨hp_38, hp_39, hp_40, hp_41, hp_42⟩, rfl⟩ := hw
        have hP : va_P D vwCl (CT cy a J (va_up (va_up I 10 (I 10)) 99 w_33) (va_up (va_up O 5 g_24) 100 w_34) (va_up (va_up (va_up R 4 w_35) 5 w_36) 6 w_37) RO (g_25 ++ ((Y ++ [laC r_14 (nI na) (zLy fl na).1 (zLy fl na).2]) ++ [laC r_23 (nI nb) (zLy fl nb).1 (zLy fl nb).2]))) H := hP
        have hD : va_D A (CT cy a J (va_up (va_up I 10 (I 10)) 99 w_33) (va_up (va_up O 5 g_24) 100 w_34) (va_up (va_up (va_up R 4 w_35) 5 w_36) 6 w_37) RO (g_25 ++ ((Y ++ [laC r_14 (nI na) (zLy fl na).1 (zLy fl na).2]) ++ [laC r_23 (nI nb) (zLy fl nb).1 (zLy fl nb).2]))) := hD
        refine lv_aload_n hx hb dX9_apart_51 rfl (lv_at hl 0 rfl) ?_
        refine va_get (D := D) (ci := 8) (v := .ref (a 3)) (C := RX9) (T := TX9) (N := 11) hx hb hts hi9 hown hK hP 0 rfl rfl 2 (by decide) hw1 (fun _ h9 => h9) rfl dX9_apart_52 ?_
        refine kR_i (As := []) (rest := []) (q0 := 3) ⟨hx, hb, hml, hown, hts⟩ (x_X2_distance l D cy a _ J (va_up (va_up I 10 (I 10)) 99 w_33) (va_up (va_up O 5 g_24) 100 w_34) (va_up (va_up (va_up R 4 w_35) 5 w_36) 6 w_37) RO g_25 ((Y ++ [laC r_14 (nI na) (zLy fl na).1 (zLy fl na).2]) ++ [laC r_23 (nI nb) (zLy fl nb).1 (zLy fl nb).2])   ) (cwV 0 hts gX9_apart_X2_distance rfl rfl rfl (by decide +kernel) ⟨Nat.le_of_ble_eq_true rfl, Nat.le_of_ble_eq_true rfl⟩) hK hN hP hD rfl rfl rfl hl.1 rfl (Nat.le_of_ble_eq_true rfl) dX9_apart_55 ⟨Nat.le_of_ble_eq_true rfl, Nat.le_of_ble_eq_true rfl⟩ ?_
        exact wret_i hx hb hr hlocks (J, (va_up (va_up I 10 (I 10)) 99 w_33), (va_up (va_up O 5 g_24) 100 w_34), (va_up (va_up (va_up R 4 w_35) 5 w_36) 6 w_37), RO, g_25, (Y ++ [laC r_14 (nI na) (zLy fl na).1 (zLy fl na).2]) ++ [laC r_23 (nI nb) (zLy fl nb).1 (zLy fl nb).2]) ⟨(I 10), w_33, g_24, w_34, w_35, w_36, w_37, g_25, ((Y ++ [laC r_14 (nI na) (zLy fl na).1 (zLy fl na).2]) ++ [laC r_23 (nI nb) (zLy fl nb).1 (zLy fl nb).2]), ⟨(ap_finC hRA.1 ea eb hza hzb (ag_3 c_1 c_6 c_13).symm hp_39 hp_40), hmono_31, hL_26, hp_38⟩, rfl⟩ hP hD hS dX9_apart_58
      · replace c_13 := bI_f c_13
        refine lv_aload_n hx hb dX9_apart_30 rfl (lv_at hl 0 rfl) ?_
        refine lv_ldc (v := (-100001)) hx hb hown hw0 dX9_apart_31 ?_
        refine kM_i (As := [.int (-100001)]) (rest := []) (q0 := 0) ⟨hx, hb, hml, hown, hts⟩ (t_X9_finding l D cy a _ J (va_up (va_up I 10 (I 10)) 99 (I 99)) (va_up (va_up O 5 w_10) 100 (O 100)) (va_up (va_up (va_up R 4 (R 4)) 5 (R 5)) 6 (R 6)) RO LL_11 Y ((-100001) : Int32)   ) (cwV 1 hts gX9_apart_X9_finding rfl rfl rfl (by decide +kernel) ⟨Nat.le_of_ble_eq_true rfl, Nat.le_of_ble_eq_true rfl⟩) hK hN hP hD hS hA rfl rfl rfl hl.1 rfl (Nat.le_of_ble_eq_true rfl) dX9_apart_33 ⟨Nat.le_of_ble_eq_true rfl, Nat.le_of_ble_eq_true rfl⟩ (fun r_43 u H locs hw hP hD hS => ?_)
        obtain ⟨w_44, rfl, rfl⟩ := hw
        have hP : va_P D vwCl (CT cy a J (va_up (va_up I 10 w_44) 99 (I 99)) (va_up (va_up O 5 w_10) 100 (O 100)) (va_up (va_up (va_up R 4 (R 4)) 5 (R 5)) 6 (R 6)) RO (LL_11 ++ Y)) H := hP
        have hD : va_D A (CT cy a J (va_up (va_up I 10 w_44) 99 (I 99)) (va_up (va_up O 5 w_10) 100 (O 100)) (va_up (va_up (va_up R 4 (R 4)) 5 (R 5)) 6 (R 6)) RO (LL_11 ++ Y)) := hD
        refine W.widen (k := 14) (n := 68630) (Nat.le_of_ble_eq_true rfl) (Nat.le_of_ble_eq_true rfl) ?_
        exact wret_i hx hb hr hlocks (J, (va_up (va_up I 10 w_44) 99 (I 99)), (va_up (va_up O 5 w_10) 100 (O 100)), (va_up (va_up (va_up R 4 (R 4)) 5 (R 5)) 6 (R 6)), RO, LL_11, Y) ⟨w_44, (I 99), w_10, (O 100), (R 4), (R 5), (R 6), LL_11, Y, ⟨(ap_k (ag_2 c_1 c_13) (by decide)), (fun _ h => h), hL_12, hQ⟩, rfl⟩ hP hD hS dX9_apart_36
  · replace c_1 := bI_f c_1
    refine lv_aload_n hx hb dX9_apart_7 rfl (lv_at hl 0 rfl) ?_
    refine lv_ldc (v := (-100004)) hx hb hown hw2 dX9_apart_8 ?_
    refine kM_i (As := [.int (-100004)]) (rest := []) (q0 := 0) ⟨hx, hb, hml, hown, hts⟩ (t_X9_finding l D cy a _ J (va_up (va_up I 10 (I 10)) 99 (I 99)) (va_up (va_up O 5 (O 5)) 100 (O 100)) (va_up (va_up (va_up R 4 (R 4)) 5 (R 5)) 6 (R 6)) RO LL Y ((-100004) : Int32)   ) (cwV 1 hts gX9_apart_X9_finding rfl rfl rfl (by decide +kernel) ⟨Nat.le_of_ble_eq_true rfl, Nat.le_of_ble_eq_true rfl⟩) hK hN hP hD hS hA rfl rfl rfl hl.1 rfl (Nat.le_of_ble_eq_true rfl) dX9_apart_10 ⟨Nat.le_of_ble_eq_true rfl, Nat.le_of_ble_eq_true rfl⟩ (fun r_45 u H locs hw hP hD hS => ?_)
    obtain ⟨w_46, rfl, rfl⟩ := hw
    have hP : va_P D vwCl (CT cy a J (va_up (va_up I 10 w_46) 99 (I 99)) (va_up (va_up O 5 (O 5)) 100 (O 100)) (va_up (va_up (va_up R 4 (R 4)) 5 (R 5)) 6 (R 6)) RO (LL ++ Y)) H := hP
    have hD : va_D A (CT cy a J (va_up (va_up I 10 w_46) 99 (I 99)) (va_up (va_up O 5 (O 5)) 100 (O 100)) (va_up (va_up (va_up R 4 (R 4)) 5 (R 5)) 6 (R 6)) RO (LL ++ Y)) := hD
    refine W.widen (k := 14) (n := 68630) (Nat.le_of_ble_eq_true rfl) (Nat.le_of_ble_eq_true rfl) ?_
    exact wret_i hx hb hr hlocks (J, (va_up (va_up I 10 w_46) 99 (I 99)), (va_up (va_up O 5 (O 5)) 100 (O 100)), (va_up (va_up (va_up R 4 (R 4)) 5 (R 5)) 6 (R 6)), RO, LL, Y) ⟨w_46, (I 99), (O 5), (O 100), (R 4), (R 5), (R 6), LL, Y, ⟨(ap_k (ag_0 c_1) (by decide)), (fun _ h => h), hL, hQ⟩, rfl⟩ hP hD hS dX9_apart_13
