set_option maxHeartbeats 4000000 in
set_option maxRecDepth 100000 in
theorem x_X10_must (l : Launch) (D : va_G) (cy : Nat → ClassId) (a : Nat → Nat) (sz : Nat) (J : Nat → Int64) (I : Nat → Int32) (R : Nat → Nat → Int32) (RJ : Nat → Nat → Int64) (x0 : Int32) (x1 : Bool) : Met l yX10_must wsX10_must ({ frames := 1, cells := 0, slots := 0, locals := 21 }) (va_Pc [.ref (a 0), .int x0, .int (bI x1)] (PW D cy sz (MW cy a J I R RJ))) (va_Qv (fun (u : MS) => ∃ (w0 : Int64), ∃ (w1 : Int64), ∃ (w2 : Int64), ((w0 = J 19 ||| mAl x0 x1) ∧ (w1 = J 20 ||| mAc x0 x1) ∧ (w2 = J 21 ||| m_place x0 x1)) ∧ u = ((va_up (va_up (va_up J 19 w0) 20 w1) 21 w2), I, R, RJ)) (BW D (va_A (MW cy a J I R RJ) sz) (MWu cy a)) (va_A (MW cy a J I R RJ) sz)) 0 0 (va_A (MW cy a J I R RJ) sz) := by
  refine Met.ofW (cc := cX10_must) (maxL := 3) (ret := none) (by decide) rfl ?_
  intro p e s m args below meth c s₁ B hml hv
  obtain ⟨rfl, rfl, hP, hK, hN, hD0⟩ := hv
  have hx := B.exec
  have hb := B.bytes
  have hr := B.returns
  have hts := atoms_spec (ws := wsX10_must) B.pre
  have hown : s.vm.findClass RX10 = some m.cls := findClass_of_methodNamed B.named
  have hlocks := B.notSynchronized
  have hw0 := hts (.fieldLink RX10 181 "ParquetLayerModel" "taken" "J") (by decide +kernel)
  have hw1 := hts (.fieldLink RX10 184 "ParquetLayerModel" "mustAlong" "J") (by decide +kernel)
  have hw2 := hts (.fieldLink RX10 187 "ParquetLayerModel" "mustAcross" "J") (by decide +kernel)
  have hi10 := ihX10_must_10
  have hD := hD0.self (sz := s.heap.size)
  generalize hAe : va_A (MW cy a J I R RJ) s.heap.size = A at hD ⊢
  have hA : ∀ q : Nat, s.heap.size ≤ q → A q := fun q h => by rw [← hAe]; exact Or.inr h
  have hS : va_S A s.heap s.heap [] := va_S.rf
  have hl := lv_entry ([.ref (a 0), .int x0, .int (bI x1)]) (n := 3) (Nat.le_of_ble_eq_true rfl)
  rw [lg_entry_eq]
  generalize (lg_sl ([.ref (a 0), .int x0, .int (bI x1)]) ++ List.replicate (3 - (lg_sl ([.ref (a 0), .int x0, .int (bI x1)])).length) Slot.unset).toArray = ls at hl ⊢
  have hl : lv_has ls 3 [(0, .ref (a 0)), (1, .int x0), (2, .int (bI x1))] := hl
  have hP : va_P D vwCl (MW cy a (va_up (va_up (va_up J 19 (J 19)) 20 (J 20)) 21 (J 21)) I R RJ) s.heap := hP
  have hD : va_D A (MW cy a (va_up (va_up (va_up J 19 (J 19)) 20 (J 20)) 21 (J 21)) I R RJ) := hD
  refine lv_aload_n hx hb dX10_must_0 rfl (lv_at hl 0 rfl) ?_
  refine lv_dup hx hb dX10_must_1 rfl ?_
  refine va_get (D := D) (ci := 9) (v := .long (J 21)) (C := RX10) (T := TX10) (N := 30) hx hb hts hi10 hown hK hP 0 rfl rfl 21 (by decide) hw0 (fun _ h9 => h9) rfl dX10_must_2 ?_
  refine lv_iload_n hx hb dX10_must_5 rfl (lv_at hl 1 rfl) ?_
  refine lv_iload_n hx hb dX10_must_6 rfl (lv_at hl 2 rfl) ?_
  refine kS_l (As := [.int x0, .int (bI x1)]) (rest := [.long (J 21), .ref (a 0)]) ⟨hx, hb, hml, hown, hts⟩ (c_X10_place l x0 x1) (va_cwS 2 hts gX10_must_X10_place rfl rfl rfl (by decide +kernel) ⟨Nat.le_of_ble_eq_true rfl, Nat.le_of_ble_eq_true rfl⟩) rfl hl.1 rfl (Nat.le_of_ble_eq_true rfl) dX10_must_7 ⟨Nat.le_of_ble_eq_true rfl, Nat.le_of_ble_eq_true rfl⟩ ?_
  refine lv_lor hx hb dX10_must_10 ?_
  refine va_put (D := D) (ci := 9) (v := .long ((J 21) ||| (m_place x0 x1))) (ty := .long) (C := RX10) (T := TX10) (N := 30) hx hb hts hi10 tyX10 tyX10_ok nmX10 hown hK hP hD hS 0 rfl rfl 21 (by decide) hw0 (fun _ h9 => h9) rfl (by decide +kernel) rfl rfl (Nat.le_of_ble_eq_true rfl) dX10_must_11 (fun H locs hP hD hS => ?_)
  have hP : va_P D vwCl (MW cy a (va_up (va_up (va_up J 19 (J 19)) 20 (J 20)) 21 ((J 21) ||| (m_place x0 x1))) I R RJ) H := hP
  have hD : va_D A (MW cy a (va_up (va_up (va_up J 19 (J 19)) 20 (J 20)) 21 ((J 21) ||| (m_place x0 x1))) I R RJ) := hD
  refine lv_aload_n hx hb dX10_must_14 rfl (lv_at hl 0 rfl) ?_
  refine lv_dup hx hb dX10_must_15 rfl ?_
  refine va_get (D := D) (ci := 9) (v := .long (J 19)) (C := RX10) (T := TX10) (N := 30) hx hb hts hi10 hown hK hP 0 rfl rfl 19 (by decide) hw1 (fun _ h9 => h9) rfl dX10_must_16 ?_
  refine lv_iload_n hx hb dX10_must_19 rfl (lv_at hl 2 rfl) ?_
  refine lv_if_eq (tgt := 27) hx hb dX10_must_20 (by decide) (fun c_1 => ?_) (fun c_1 => ?_)
  · replace c_1 := bI_f c_1
    refine lv_lconst (v := 1) hx hb dX10_must_27 (by decide) ?_
    refine lv_iload_n hx hb dX10_must_28 rfl (lv_at hl 1 rfl) ?_
    refine lv_lshl (v := (1 : Int64) <<< ((x0 : Int32).toInt64 &&& 63)) hx hb dX10_must_29 rfl ?_
    refine lv_lor hx hb dX10_must_30 ?_
    refine va_put (D := D) (ci := 9) (v := .long ((J 19) ||| ((1 : Int64) <<< ((x0 : Int32).toInt64 &&& 63)))) (ty := .long) (C := RX10) (T := TX10) (N := 30) hx hb hts hi10 tyX10 tyX10_ok nmX10 hown hK hP hD hS 0 rfl rfl 19 (by decide) hw1 (fun _ h9 => h9) rfl (by decide +kernel) rfl rfl (Nat.le_of_ble_eq_true rfl) dX10_must_31 (fun H locs hP hD hS => ?_)
    have hP : va_P D vwCl (MW cy a (va_up (va_up (va_up J 19 ((J 19) ||| ((1 : Int64) <<< ((x0 : Int32).toInt64 &&& 63)))) 20 (J 20)) 21 ((J 21) ||| (m_place x0 x1))) I R RJ) H := hP
    have hD : va_D A (MW cy a (va_up (va_up (va_up J 19 ((J 19) ||| ((1 : Int64) <<< ((x0 : Int32).toInt64 &&& 63)))) 20 (J 20)) 21 ((J 21) ||| (m_place x0 x1))) I R RJ) := hD
    refine lv_aload_n hx hb dX10_must_34 rfl (lv_at hl 0 rfl) ?_
    refine lv_dup hx hb dX10_must_35 rfl ?_
    refine va_get (D := D) (ci := 9) (v := .long (J 20)) (C := RX10) (T := TX10) (N := 30) hx hb hts hi10 hown hK hP 0 rfl rfl 20 (by decide) hw2 (fun _ h9 => h9) rfl dX10_must_36 ?_
    refine lv_iload_n hx hb dX10_must_39 rfl (lv_at hl 2 rfl) ?_
    refine lv_if_eq (tgt := 49) hx hb dX10_must_40 (by decide) (fun c_2 => ?_) (fun c_2 => ?_)
    · replace c_2 := bI_f c_2
      refine lv_lconst (v := 0) hx hb dX10_must_49 (by decide) ?_
      refine lv_lor hx hb dX10_must_50 ?_
      refine va_put (D := D) (ci := 9) (v := .long ((J 20) ||| 0)) (ty := .long) (C := RX10) (T := TX10) (N := 30) hx hb hts hi10 tyX10 tyX10_ok nmX10 hown hK hP hD hS 0 rfl rfl 20 (by decide) hw2 (fun _ h9 => h9) rfl (by decide +kernel) rfl rfl (Nat.le_of_ble_eq_true rfl) dX10_must_51 (fun H locs hP hD hS => ?_)
      have hP : va_P D vwCl (MW cy a (va_up (va_up (va_up J 19 ((J 19) ||| ((1 : Int64) <<< ((x0 : Int32).toInt64 &&& 63)))) 20 ((J 20) ||| 0)) 21 ((J 21) ||| (m_place x0 x1))) I R RJ) H := hP
      have hD : va_D A (MW cy a (va_up (va_up (va_up J 19 ((J 19) ||| ((1 : Int64) <<< ((x0 : Int32).toInt64 &&& 63)))) 20 ((J 20) ||| 0)) 21 ((J 21) ||| (m_place x0 x1))) I R RJ) := hD
      exact wret_v hx hb hr hlocks ((va_up (va_up (va_up J 19 ((J 19) ||| ((1 : Int64) <<< ((x0 : Int32).toInt64 &&& 63)))) 20 ((J 20) ||| 0)) 21 ((J 21) ||| (m_place x0 x1))), I, R, RJ) ⟨((J 19) ||| ((1 : Int64) <<< ((x0 : Int32).toInt64 &&& 63))), ((J 20) ||| 0), ((J 21) ||| (m_place x0 x1)), ⟨(by rw [mAl, if_neg (by rw [c_1]; decide)]), (by rw [mAc, if_neg (by rw [c_2]; decide)]), rfl⟩, rfl⟩ hP hD hS dX10_must_54
    · replace c_2 := bI_t c_2
      refine lv_lconst (v := 1) hx hb dX10_must_43 (by decide) ?_
      refine lv_iload_n hx hb dX10_must_44 rfl (lv_at hl 1 rfl) ?_
      refine lv_lshl (v := (1 : Int64) <<< ((x0 : Int32).toInt64 &&& 63)) hx hb dX10_must_45 rfl ?_
      refine lv_goto (tgt := 50) hx hb dX10_must_46 (by decide) ?_
      refine lv_lor hx hb dX10_must_50 ?_
      refine va_put (D := D) (ci := 9) (v := .long ((J 20) ||| ((1 : Int64) <<< ((x0 : Int32).toInt64 &&& 63)))) (ty := .long) (C := RX10) (T := TX10) (N := 30) hx hb hts hi10 tyX10 tyX10_ok nmX10 hown hK hP hD hS 0 rfl rfl 20 (by decide) hw2 (fun _ h9 => h9) rfl (by decide +kernel) rfl rfl (Nat.le_of_ble_eq_true rfl) dX10_must_51 (fun H locs hP hD hS => ?_)
      have hP : va_P D vwCl (MW cy a (va_up (va_up (va_up J 19 ((J 19) ||| ((1 : Int64) <<< ((x0 : Int32).toInt64 &&& 63)))) 20 ((J 20) ||| ((1 : Int64) <<< ((x0 : Int32).toInt64 &&& 63)))) 21 ((J 21) ||| (m_place x0 x1))) I R RJ) H := hP
      have hD : va_D A (MW cy a (va_up (va_up (va_up J 19 ((J 19) ||| ((1 : Int64) <<< ((x0 : Int32).toInt64 &&& 63)))) 20 ((J 20) ||| ((1 : Int64) <<< ((x0 : Int32).toInt64 &&& 63)))) 21 ((J 21) ||| (m_place x0 x1))) I R RJ) := hD
      exact wret_v hx hb hr hlocks ((va_up (va_up (va_up J 19 ((J 19) ||| ((1 : Int64) <<< ((x0 : Int32).toInt64 &&& 63)))) 20 ((J 20) ||| ((1 : Int64) <<< ((x0 : Int32).toInt64 &&& 63)))) 21 ((J 21) ||| (m_place x0 x1))), I, R, RJ) ⟨((J 19) ||| ((1 : Int64) <<< ((x0 : Int32).toInt64 &&& 63))), ((J 20) ||| ((1 : Int64) <<< ((x0 : Int32).toInt64 &&& 63))), ((J 21) ||| (m_place x0 x1)), ⟨(by rw [mAl, if_neg (by rw [c_1]; decide)]), (by rw [mAc, if_pos c_2]), rfl⟩, rfl⟩ hP hD hS dX10_must_54
  · replace c_1 := bI_t c_1
    refine lv_lconst (v := 0) hx hb dX10_must_23 (by decide) ?_
    refine lv_goto (tgt := 30) hx hb dX10_must_24 (by decide) ?_
    refine lv_lor hx hb dX10_must_30 ?_
    refine va_put (D := D) (ci := 9) (v := .long ((J 19) ||| 0)) (ty := .long) (C := RX10) (T := TX10) (N := 30) hx hb hts hi10 tyX10 tyX10_ok nmX10 hown hK hP hD hS 0 rfl rfl 19 (by decide) hw1 (fun _ h9 => h9) rfl (by decide +kernel) rfl rfl (Nat.le_of_ble_eq_true rfl) dX10_must_31 (fun H locs hP hD hS => ?_)
    have hP : va_P D vwCl (MW cy a (va_up (va_up (va_up J 19 ((J 19) ||| 0)) 20 (J 20)) 21 ((J 21) ||| (m_place x0 x1))) I R RJ) H := hP
    have hD : va_D A (MW cy a (va_up (va_up (va_up J 19 ((J 19) ||| 0)) 20 (J 20)) 21 ((J 21) ||| (m_place x0 x1))) I R RJ) := hD
    refine lv_aload_n hx hb dX10_must_34 rfl (lv_at hl 0 rfl) ?_
    refine lv_dup hx hb dX10_must_35 rfl ?_
    refine va_get (D := D) (ci := 9) (v := .long (J 20)) (C := RX10) (T := TX10) (N := 30) hx hb hts hi10 hown hK hP 0 rfl rfl 20 (by decide) hw2 (fun _ h9 => h9) rfl dX10_must_36 ?_
    refine lv_iload_n hx hb dX10_must_39 rfl (lv_at hl 2 rfl) ?_
    refine lv_if_eq (tgt := 49) hx hb dX10_must_40 (by decide) (fun c_3 => ?_) (fun c_3 => ?_)
    · replace c_3 := bI_f c_3
      refine lv_lconst (v := 0) hx hb dX10_must_49 (by decide) ?_
      refine lv_lor hx hb dX10_must_50 ?_
      refine va_put (D := D) (ci := 9) (v := .long ((J 20) ||| 0)) (ty := .long) (C := RX10) (T := TX10) (N := 30) hx hb hts hi10 tyX10 tyX10_ok nmX10 hown hK hP hD hS 0 rfl rfl 20 (by decide) hw2 (fun _ h9 => h9) rfl (by decide +kernel) rfl rfl (Nat.le_of_ble_eq_true rfl) dX10_must_51 (fun H locs hP hD hS => ?_)
      have hP : va_P D vwCl (MW cy a (va_up (va_up (va_up J 19 ((J 19) ||| 0)) 20 ((J 20) ||| 0)) 21 ((J 21) ||| (m_place x0 x1))) I R RJ) H := hP
      have hD : va_D A (MW cy a (va_up (va_up (va_up J 19 ((J 19) ||| 0)) 20 ((J 20) ||| 0)) 21 ((J 21) ||| (m_place x0 x1))) I R RJ) := hD
      exact wret_v hx hb hr hlocks ((va_up (va_up (va_up J 19 ((J 19) ||| 0)) 20 ((J 20) ||| 0)) 21 ((J 21) ||| (m_place x0 x1))), I, R, RJ) ⟨((J 19) ||| 0), ((J 20) ||| 0), ((J 21) ||| (m_place x0 x1)), ⟨(by rw [mAl, if_pos c_1]), (by rw [mAc, if_neg (by rw [c_3]; decide)]), rfl⟩, rfl⟩ hP hD hS dX10_must_54
    · replace c_3 := bI_t c_3
      refine lv_lconst (v := 1) hx hb dX10_must_43 (by decide) ?_
      refine lv_iload_n hx hb dX10_must_44 rfl (lv_at hl 1 rfl) ?_
      refine lv_lshl (v := (1 : Int64) <<< ((x0 : Int32).toInt64 &&& 63)) hx hb dX10_must_45 rfl ?_
      refine lv_goto (tgt := 50) hx hb dX10_must_46 (by decide) ?_
      refine lv_lor hx hb dX10_must_50 ?_
      refine va_put (D := D) (ci := 9) (v := .long ((J 20) ||| ((1 : Int64) <<< ((x0 : Int32).toInt64 &&& 63)))) (ty := .long) (C := RX10) (T := TX10) (N := 30) hx hb hts hi10 tyX10 tyX10_ok nmX10 hown hK hP hD hS 0 rfl rfl 20 (by decide) hw2 (fun _ h9 => h9) rfl (by decide +kernel) rfl rfl (Nat.le_of_ble_eq_true rfl) dX10_must_51 (fun H locs hP hD hS => ?_)
      have hP : va_P D vwCl (MW cy a (va_up (va_up (va_up J 19 ((J 19) ||| 0)) 20 ((J 20) ||| ((1 : Int64) <<< ((x0 : Int32).toInt64 &&& 63)))) 21 ((J 21) ||| (m_place x0 x1))) I R RJ) H := hP
      have hD : va_D A (MW cy a (va_up (va_up (va_up J 19 ((J 19) ||| 0)) 20 ((J 20) ||| ((1 : Int64) <<< ((x0 : Int32).toInt64 &&& 63)))) 21 ((J 21) ||| (m_place x0 x1))) I R RJ) := hD
      exact wret_v hx hb hr hlocks ((va_up (va_up (va_up J 19 ((J 19) ||| 0)) 20 ((J 20) ||| ((1 : Int64) <<< ((x0 : Int32).toInt64 &&& 63)))) 21 ((J 21) ||| (m_place x0 x1))), I, R, RJ) ⟨((J 19) ||| 0), ((J 20) ||| ((1 : Int64) <<< ((x0 : Int32).toInt64 &&& 63))), ((J 21) ||| (m_place x0 x1)), ⟨(by rw [mAl, if_pos c_1]), (by rw [mAc, if_pos c_3]), rfl⟩, rfl⟩ hP hD hS dX10_must_54
set_option maxHeartbeats 4000000 in
set_option maxRecDepth 100000 in
theorem x_X10_findGlued (l : Launch) (D : va_G) (cy : Nat → ClassId) (a : Nat → Nat) (sz : Nat) (J : Nat → Int64) (I : Nat → Int32) (R : Nat → Nat → Int32) (RJ : Nat → Nat → Int64)  (hM : MI I R) : Met l yX10_findGlued wsX10_findGlued ({ frames := 2, cells := 0, slots := 0, locals := 43 }) (va_Pc [.ref (a 0)] (PW D cy sz (MW cy a J I R RJ))) (va_Qv (fun (u : MS) => ∃ (w0 : Int64), ∃ (w1 : Int64), ∃ (w2 : Int64), ((w0 = gA (R 1) (I 1).toNatClampNeg ∧ w1 = gC (R 1) (I 1).toNatClampNeg ∧ w2 = gTk (R 1) (I 1).toNatClampNeg)) ∧ u = ((va_up (va_up (va_up J 19 w0) 20 w1) 21 w2), I, R, RJ)) (BW D (va_A (MW cy a J I R RJ) sz) (MWu cy a)) (va_A (MW cy a J I R RJ) sz)) 0 0 (va_A (MW cy a J I R RJ) sz) := by
  refine Met.ofW (cc := cX10_findGlued) (maxL := 2) (ret := none) (by decide) rfl ?_
  intro p e s m args below meth c s₁ B hml hv
  obtain ⟨rfl, rfl, hP, hK, hN, hD0⟩ := hv
  have hx := B.exec
  have hb := B.bytes
  have hr := B.returns
  have hts := atoms_spec (ws := wsX10_findGlued) B.pre
  have hown : s.vm.findClass RX10 = some m.cls := findClass_of_methodNamed B.named
  have hlocks := B.notSynchronized
  have hw0 := hts (.fieldLink RX10 85 "ParquetLayerModel" "stones" "I") (by decide +kernel)
  have hw1 := hts (.fieldLink RX10 184 "ParquetLayerModel" "mustAlong" "J") (by decide +kernel)
  have hw2 := hts (.fieldLink RX10 187 "ParquetLayerModel" "mustAcross" "J") (by decide +kernel)
  have hw3 := hts (.fieldLink RX10 181 "ParquetLayerModel" "taken" "J") (by decide +kernel)
  have hi10 := ihX10_findGlued_10
  have hD := hD0.self (sz := s.heap.size)
  generalize hAe : va_A (MW cy a J I R RJ) s.heap.size = A at hD ⊢
  have hA : ∀ q : Nat, s.heap.size ≤ q → A q := fun q h => by rw [← hAe]; exact Or.inr h
  have hS : va_S A s.heap s.heap [] := va_S.rf
  have hl := lv_entry ([.ref (a 0)]) (n := 2) (Nat.le_of_ble_eq_true rfl)
  rw [lg_entry_eq]
  generalize (lg_sl ([.ref (a 0)]) ++ List.replicate (2 - (lg_sl ([.ref (a 0)])).length) Slot.unset).toArray = ls at hl ⊢
  have hl : lv_has ls 2 [(0, .ref (a 0))] := hl
  obtain ⟨ns, hns, hI1⟩ := vp_in_of hM.1 (by decide)
  have hP : va_P D vwCl (MW cy a (va_up (va_up (va_up J 19 (J 19)) 20 (J 20)) 21 (J 21)) I R RJ) s.heap := hP
  have hD : va_D A (MW cy a (va_up (va_up (va_up J 19 (J 19)) 20 (J 20)) 21 (J 21)) I R RJ) := hD
  have lp17 : ∀ (n17 : Nat), ∀ (i : Nat) (m0_17 : Int64) (m1_17 : Int64) (m2_17 : Int64), (i ≤ ns) → (m0_17 = gA (R 1) i ∧ m1_17 = gC (R 1) i ∧ m2_17 = gTk (R 1) i) → (ns - i) < n17 → ∀ (H : Heap) (locs : List Loc), va_P D vwCl (MW cy a (va_up (va_up (va_up J 19 m0_17) 20 m1_17) 21 m2_17) I R RJ) H → va_D A (MW cy a (va_up (va_up (va_up J 19 m0_17) 20 m1_17) 21 m2_17) I R RJ) → va_S A s.heap H locs → ∀ (ls : Array Slot), lv_has ls 2 [(0, .ref (a 0)), (1, .int (nI i))] → W p l e (headSpec wsX10_findGlued ({ frames := 2, cells := 0, slots := 0, locals := 43 })).room s m ([.ref (a 0)] : List Value).toArray below meth c H locs 0 0 (MQ below (va_Qv (fun (u : MS) => ∃ (w0 : Int64), ∃ (w1 : Int64), ∃ (w2 : Int64), ((w0 = gA (R 1) (I 1).toNatClampNeg ∧ w1 = gC (R 1) (I 1).toNatClampNeg ∧ w2 = gTk (R 1) (I 1).toNatClampNeg)) ∧ u = ((va_up (va_up (va_up J 19 w0) 20 w1) 21 w2), I, R, RJ)) (BW D A (MWu cy a)) A) ([.ref (a 0)] : List Value).toArray s 0 0 A) (F0 m 17 ls []) := by
    intro n17
    induction n17 with
    | zero => intro i m0_17 m1_17 m2_17 hi hgg hn; exact absurd hn (Nat.not_lt_zero _)
    | succ n17 ih17 =>
      intro i m0_17 m1_17 m2_17 hi hgg hn17 H locs hP hD hS ls hl
      refine lv_iload_n hx hb dX10_findGlued_17 rfl (lv_at hl 1 rfl) ?_
      refine lv_aload_n hx hb dX10_findGlued_18 rfl (lv_at hl 0 rfl) ?_
      refine va_get (D := D) (ci := 9) (v := .int (I 1)) (C := RX10) (T := TX10) (N := 30) hx hb hts hi10 hown hK hP 0 rfl rfl 1 (by decide) hw0 (fun _ h9 => h9) rfl dX10_findGlued_19 ?_
      refine lv_icmp_ge (tgt := 53) hx hb dX10_findGlued_22 (by decide) (fun c_1 => ?_) (fun c_1 => ?_)
      · have hie := ctr_ge (N := ns) (by omega) hi (by rw [← hI1]; exact c_1)
        exact wret_v hx hb hr hlocks ((va_up (va_up (va_up J 19 m0_17) 20 m1_17) 21 m2_17), I, R, RJ) ⟨m0_17, m1_17, m2_17, (by rw [hI1, cl20 (by omega), ← hie]; exact hgg), rfl⟩ hP hD hS dX10_findGlued_53
      · have hlt := ctr_lt (N := ns) (by omega) hi (by rw [← hI1]; exact c_1)
        refine lv_aload_n hx hb dX10_findGlued_25 rfl (lv_at hl 0 rfl) ?_
        refine lv_iload_n hx hb dX10_findGlued_26 rfl (lv_at hl 1 rfl) ?_
        refine kR_i (As := [.int (nI i)]) (rest := []) (q0 := 0) ⟨hx, hb, hml, hown, hts⟩ (c_X10_isGlued l D cy a _ (va_up (va_up (va_up J 19 m0_17) 20 m1_17) 21 m2_17) I R RJ (nI i) (vp_in_nI (by omega) (by decide))) (cwV 1 hts gX10_findGlued_X10_isGlued rfl rfl rfl (by decide +kernel) ⟨Nat.le_of_ble_eq_true rfl, Nat.le_of_ble_eq_true rfl⟩) hK hN hP hD rfl rfl rfl hl.1 rfl (Nat.le_of_ble_eq_true rfl) dX10_findGlued_27 ⟨Nat.le_of_ble_eq_true rfl, Nat.le_of_ble_eq_true rfl⟩ ?_
        refine lv_if_eq (tgt := 47) hx hb dX10_findGlued_30 (by decide) (fun c_2 => ?_) (fun c_2 => ?_)
        · replace c_2 := bI_f c_2
          refine lv_iinc (v := nI (i + 1)) (lv' := [(1, .int (nI (i + 1))), (0, .ref (a 0))]) hx hb dX10_findGlued_47 hl (k := 1) rfl (nI_1 _) (by decide) rfl (fun ls hl => ?_)
          refine lv_goto (tgt := 17) hx hb dX10_findGlued_50 (by decide) ?_
          exact ih17 (i + 1) m0_17 m1_17 m2_17 (by omega) (gg_n (by omega) c_2 hgg) (by omega) _ _ hP hD hS ls (lv_sub hl [1, 0] rfl)
        · replace c_2 := bI_t c_2
          refine lv_aload_n hx hb dX10_findGlued_33 rfl (lv_at hl 0 rfl) ?_
          refine lv_aload_n hx hb dX10_findGlued_34 rfl (lv_at hl 0 rfl) ?_
          refine lv_iload_n hx hb dX10_findGlued_35 rfl (lv_at hl 1 rfl) ?_
          refine kR_i (As := [.int (nI i)]) (rest := [.ref (a 0)]) (q0 := 0) ⟨hx, hb, hml, hown, hts⟩ (c_X10_fieldOf l D cy a _ (va_up (va_up (va_up J 19 m0_17) 20 m1_17) 21 m2_17) I R RJ (nI i) (vp_in_nI (by omega) (by decide))) (cwV 1 hts gX10_findGlued_X10_fieldOf rfl rfl rfl (by decide +kernel) ⟨Nat.le_of_ble_eq_true rfl, Nat.le_of_ble_eq_true rfl⟩) hK hN hP hD rfl rfl rfl hl.1 rfl (Nat.le_of_ble_eq_true rfl) dX10_findGlued_36 ⟨Nat.le_of_ble_eq_true rfl, Nat.le_of_ble_eq_true rfl⟩ ?_
          refine lv_aload_n hx hb dX10_findGlued_39 rfl (lv_at hl 0 rfl) ?_
          refine lv_iload_n hx hb dX10_findGlued_40 rfl (lv_at hl 1 rfl) ?_
          refine kR_i (As := [.int (nI i)]) (rest := [.int ((((R 1) (nI i).toNatClampNeg) >>> ((2 : Int32) &&& 31)) &&& 63), .ref (a 0)]) (q0 := 0) ⟨hx, hb, hml, hown, hts⟩ (c_X10_isAcross l D cy a _ (va_up (va_up (va_up J 19 m0_17) 20 m1_17) 21 m2_17) I R RJ (nI i) (vp_in_nI (by omega) (by decide))) (cwV 1 hts gX10_findGlued_X10_isAcross rfl rfl rfl (by decide +kernel) ⟨Nat.le_of_ble_eq_true rfl, Nat.le_of_ble_eq_true rfl⟩) hK hN hP hD rfl rfl rfl hl.1 rfl (Nat.le_of_ble_eq_true rfl) dX10_findGlued_41 ⟨Nat.le_of_ble_eq_true rfl, Nat.le_of_ble_eq_true rfl⟩ ?_
          refine kM_v (As := [.int ((((R 1) (nI i).toNatClampNeg) >>> ((2 : Int32) &&& 31)) &&& 63), .int (bI (m_acr ((R 1) (nI i).toNatClampNeg)))]) (rest := []) (q0 := 0) ⟨hx, hb, hml, hown, hts⟩ (x_X10_must l D cy a _ (va_up (va_up (va_up J 19 m0_17) 20 m1_17) 21 m2_17) I R RJ ((((R 1) (nI i).toNatClampNeg) >>> ((2 : Int32) &&& 31)) &&& 63) (m_acr ((R 1) (nI i).toNatClampNeg))  ) (cwV 2 hts gX10_findGlued_X10_must rfl rfl rfl (by decide +kernel) ⟨Nat.le_of_ble_eq_true rfl, Nat.le_of_ble_eq_true rfl⟩) hK hN hP hD hS hA rfl rfl rfl hl.1 rfl (Nat.le_of_ble_eq_true rfl) dX10_findGlued_44 ⟨Nat.le_of_ble_eq_true rfl, Nat.le_of_ble_eq_true rfl⟩ (fun u H locs hw hP hD hS => ?_)
          obtain ⟨w_4, w_5, w_6, ⟨hp_7, hp_8, hp_9⟩, rfl⟩ := hw
          have hP : va_P D vwCl (MW cy a (va_up (va_up (va_up J 19 w_4) 20 w_5) 21 w_6) I R RJ) H := hP
          have hD : va_D A (MW cy a (va_up (va_up (va_up J 19 w_4) 20 w_5) 21 w_6) I R RJ) := hD
          refine lv_iinc (v := nI (i + 1)) (lv' := [(1, .int (nI (i + 1))), (0, .ref (a 0))]) hx hb dX10_findGlued_47 hl (k := 1) rfl (nI_1 _) (by decide) rfl (fun ls hl => ?_)
          refine lv_goto (tgt := 17) hx hb dX10_findGlued_50 (by decide) ?_
          exact ih17 (i + 1) w_4 w_5 w_6 (by omega) (gg_y (by omega) c_2 hgg hp_7 hp_8 hp_9) (by omega) _ _ hP hD hS ls (lv_sub hl [1, 0] rfl)
  refine lv_aload_n hx hb dX10_findGlued_0 rfl (lv_at hl 0 rfl) ?_
  refine lv_lconst (v := 0) hx hb dX10_findGlued_1 (by decide) ?_
  refine va_put (D := D) (ci := 9) (v := .long 0) (ty := .long) (C := RX10) (T := TX10) (N := 30) hx hb hts hi10 tyX10 tyX10_ok nmX10 hown hK hP hD hS 0 rfl rfl 19 (by decide) hw1 (fun _ h9 => h9) rfl (by decide +kernel) rfl rfl (Nat.le_of_ble_eq_true rfl) dX10_findGlued_2 (fun H locs hP hD hS => ?_)
  have hP : va_P D vwCl (MW cy a (va_up (va_up (va_up J 19 0) 20 (J 20)) 21 (J 21)) I R RJ) H := hP
  have hD : va_D A (MW cy a (va_up (va_up (va_up J 19 0) 20 (J 20)) 21 (J 21)) I R RJ) := hD
  refine lv_aload_n hx hb dX10_findGlued_5 rfl (lv_at hl 0 rfl) ?_
  refine lv_lconst (v := 0) hx hb dX10_findGlued_6 (by decide) ?_
  refine va_put (D := D) (ci := 9) (v := .long 0) (ty := .long) (C := RX10) (T := TX10) (N := 30) hx hb hts hi10 tyX10 tyX10_ok nmX10 hown hK hP hD hS 0 rfl rfl 20 (by decide) hw2 (fun _ h9 => h9) rfl (by decide +kernel) rfl rfl (Nat.le_of_ble_eq_true rfl) dX10_findGlued_7 (fun H locs hP hD hS => ?_)
  have hP : va_P D vwCl (MW cy a (va_up (va_up (va_up J 19 0) 20 0) 21 (J 21)) I R RJ) H := hP
  have hD : va_D A (MW cy a (va_up (va_up (va_up J 19 0) 20 0) 21 (J 21)) I R RJ) := hD
  refine lv_aload_n hx hb dX10_findGlued_10 rfl (lv_at hl 0 rfl) ?_
  refine lv_lconst (v := 0) hx hb dX10_findGlued_11 (by decide) ?_
  refine va_put (D := D) (ci := 9) (v := .long 0) (ty := .long) (C := RX10) (T := TX10) (N := 30) hx hb hts hi10 tyX10 tyX10_ok nmX10 hown hK hP hD hS 0 rfl rfl 21 (by decide) hw3 (fun _ h9 => h9) rfl (by decide +kernel) rfl rfl (Nat.le_of_ble_eq_true rfl) dX10_findGlued_12 (fun H locs hP hD hS => ?_)
  have hP : va_P D vwCl (MW cy a (va_up (va_up (va_up J 19 0) 20 0) 21 0) I R RJ) H := hP
  have hD : va_D A (MW cy a (va_up (va_up (va_up J 19 0) 20 0) 21 0) I R RJ) := hD
  refine lv_iconst (v := 0) hx hb dX10_findGlued_15 (by decide) ?_
  refine lv_istore_n (lv' := [(1, .int 0), (0, .ref (a 0))]) hx hb dX10_findGlued_16 rfl hl (by decide) rfl (fun ls hl => ?_)
  exact lp17 _ 0 0 0 0 (by omega) ⟨rfl, rfl, rfl⟩ (Nat.lt_succ_self _) _ _ hP hD hS ls (lv_sub hl [1, 0] rfl)
