set_option maxHeartbeats 4000000 in
set_option maxRecDepth 100000 in
theorem x_X10_against (l : Launch) (D : va_G) (cy : Nat → ClassId) (a : Nat → Nat) (sz : Nat) (J : Nat → Int64) (I : Nat → Int32) (R : Nat → Nat → Int32) (RJ : Nat → Nat → Int64) (x0 : Int32) (x1 : Int32) (fl : Int64) (S : List Int32) (P : List PE) (hRA : RMf (J 0) (I 1) (I 12) (R 1) (R 3) (R 4) (RJ 2) fl S P) (hG : gInv fl S) (hM : MI I R) : Met l yX10_against wsX10_against ({ frames := 6, cells := 0, slots := 0, locals := 136 }) (va_Pc [.ref (a 0), .int x0, .int x1] (PW D cy sz (MW cy a J I R RJ))) (va_Qi (fun r (u : MS) => ∃ (w0 : Int64), ∃ (w1 : Int64), ∃ (w2 : Int64), ∃ (w3 : Int64), ∃ (w4 : Int64), ∃ (w5 : Nat → Int32), ∃ (w6 : Nat → Int32), ∃ (w7 : Nat → Int32), ∃ (w8 : Nat → Int32), (r = (aAg fl S x0 x1) ∧ (aAg fl S x0 x1 = 0 → AgP (J 0) x0 x1 w3 w4 w7 w8) ∧ (aAg fl S x0 x1 = 0 → (w0 = 0 ∧ w1 = 0 ∧ w2 = 0) ∧ zT (bfx (J 0)) w6) ∧ (aAg fl S x0 x1 = 0 → (∀ r, r < 81 → hpt (bfx (J 0)) r = true → -100 ≤ (w7 r).toInt ∧ (w7 r).toInt ≤ 100) ∧ ∀ r, r < 81 → hpt (bfx (J 0)) r = true → -100 ≤ (w8 r).toInt ∧ (w8 r).toInt ≤ 100)) ∧ u = ((va_up (va_up (va_up (va_up (va_up J 19 w0) 20 w1) 21 w2) 22 w3) 23 w4), I, (va_up (va_up (va_up (va_up R 11 w5) 12 w6) 13 w7) 14 w8), RJ)) (BW D (va_A (MW cy a J I R RJ) sz) (MWu cy a)) (va_A (MW cy a J I R RJ) sz)) 0 0 (va_A (MW cy a J I R RJ) sz) := by
  refine Met.ofW (cc := cX10_against) (maxL := 4) (ret := (some .int)) (by decide) rfl ?_
  intro p e s m args below meth c s₁ B hml hv
  obtain ⟨rfl, rfl, hP, hK, hN, hD0⟩ := hv
  have hx := B.exec
  have hb := B.bytes
  have hr := B.returns
  have hts := atoms_spec (ws := wsX10_against) B.pre
  have hown : s.vm.findClass RX10 = some m.cls := findClass_of_methodNamed B.named
  have hlocks := B.notSynchronized
  have hw0 := hts (.constant RX10 141 (-100001)) (by decide +kernel)
  have hw1 := hts (.fieldLink RX10 210 "ParquetLayerModel" "walkAlong" "J") (by decide +kernel)
  have hw2 := hts (.fieldLink RX10 213 "ParquetLayerModel" "walkAcross" "J") (by decide +kernel)
  have hw3 := hts (.fieldLink RX10 51 "ParquetLayerModel" "two" "[I") (by decide +kernel)
  have hw4 := hts (.fieldLink RX10 48 "ParquetLayerModel" "one" "[I") (by decide +kernel)
  have hw5 := hts (.constant RX10 133 (-100004)) (by decide +kernel)
  have hi10 := ihX10_against_10
  have hD := hD0.self (sz := s.heap.size)
  generalize hAe : va_A (MW cy a J I R RJ) s.heap.size = A at hD ⊢
  have hA : ∀ q : Nat, s.heap.size ≤ q → A q := fun q h => by rw [← hAe]; exact Or.inr h
  have hS : va_S A s.heap s.heap [] := va_S.rf
  have hl := lv_entry ([.ref (a 0), .int x0, .int x1]) (n := 4) (Nat.le_of_ble_eq_true rfl)
  rw [lg_entry_eq]
  generalize (lg_sl ([.ref (a 0), .int x0, .int x1]) ++ List.replicate (4 - (lg_sl ([.ref (a 0), .int x0, .int x1])).length) Slot.unset).toArray = ls at hl ⊢
  have hl : lv_has ls 4 [(0, .ref (a 0)), (1, .int x0), (2, .int x1)] := hl
  have hP : va_P D vwCl (MW cy a (va_up (va_up (va_up (va_up (va_up J 19 (J 19)) 20 (J 20)) 21 (J 21)) 22 (J 22)) 23 (J 23)) I (va_up (va_up (va_up (va_up R 11 (R 11)) 12 (R 12)) 13 (R 13)) 14 (R 14)) RJ) s.heap := hP
  have hD : va_D A (MW cy a (va_up (va_up (va_up (va_up (va_up J 19 (J 19)) 20 (J 20)) 21 (J 21)) 22 (J 22)) 23 (J 23)) I (va_up (va_up (va_up (va_up R 11 (R 11)) 12 (R 12)) 13 (R 13)) 14 (R 14)) RJ) := hD
  refine lv_aload_n hx hb dX10_against_0 rfl (lv_at hl 0 rfl) ?_
  refine kM_i (As := []) (rest := []) (q0 := 0) ⟨hx, hb, hml, hown, hts⟩ (x_X10_isWhole l D cy a _ (va_up (va_up (va_up (va_up (va_up J 19 (J 19)) 20 (J 20)) 21 (J 21)) 22 (J 22)) 23 (J 23)) I (va_up (va_up (va_up (va_up R 11 (R 11)) 12 (R 12)) 13 (R 13)) 14 (R 14)) RJ  fl S P hRA ⟨hM.1, hM.2.1, hM.2.2.1, hM.2.2.2.1, hM.2.2.2.2.1, hM.2.2.2.2.2⟩) (cwV 0 hts gX10_against_X10_isWhole rfl rfl rfl (by decide +kernel) ⟨Nat.le_of_ble_eq_true rfl, Nat.le_of_ble_eq_true rfl⟩) hK hN hP hD hS hA rfl rfl rfl hl.1 rfl (Nat.le_of_ble_eq_true rfl) dX10_against_1 ⟨Nat.le_of_ble_eq_true rfl, Nat.le_of_ble_eq_true rfl⟩ (fun r_1 u H locs hw hP hD hS => ?_)
  obtain ⟨w_2, zb_3, ⟨rfl, hp_4⟩, rfl⟩ := hw
  have hP : va_P D vwCl (MW cy a (va_up (va_up (va_up (va_up (va_up J 19 (J 19)) 20 (J 20)) 21 (J 21)) 22 (J 22)) 23 (J 23)) I (va_up (va_up (va_up (va_up R 11 w_2) 12 (R 12)) 13 (R 13)) 14 (R 14)) RJ) H := hP
  have hD : va_D A (MW cy a (va_up (va_up (va_up (va_up (va_up J 19 (J 19)) 20 (J 20)) 21 (J 21)) 22 (J 22)) 23 (J 23)) I (va_up (va_up (va_up (va_up R 11 w_2) 12 (R 12)) 13 (R 13)) 14 (R 14)) RJ) := hD
  refine lv_if_ne (tgt := 10) hx hb dX10_against_4 (by decide) (fun c_5 => ?_) (fun c_5 => ?_)
  · replace c_5 := bI_t c_5
    refine lv_aload_n hx hb dX10_against_10 rfl (lv_at hl 0 rfl) ?_
    refine kM_i (As := []) (rest := []) (q0 := 0) ⟨hx, hb, hml, hown, hts⟩ (x_X10_countAllW l D cy a _ (va_up (va_up (va_up (va_up (va_up J 19 (J 19)) 20 (J 20)) 21 (J 21)) 22 (J 22)) 23 (J 23)) I (va_up (va_up (va_up (va_up R 11 w_2) 12 (R 12)) 13 (R 13)) 14 (R 14)) RJ  fl S P hRA hG (wh_ng (hp_4.symm.trans c_5)) ⟨hM.1, hM.2.1, hM.2.2.1, hM.2.2.2.1, hM.2.2.2.2.1, hM.2.2.2.2.2⟩) (cwV 0 hts gX10_against_X10_countAll rfl rfl rfl (by decide +kernel) ⟨Nat.le_of_ble_eq_true rfl, Nat.le_of_ble_eq_true rfl⟩) hK hN hP hD hS hA rfl rfl rfl hl.1 rfl (Nat.le_of_ble_eq_true rfl) dX10_against_11 ⟨Nat.le_of_ble_eq_true rfl, Nat.le_of_ble_eq_true rfl⟩ (fun r_6 u H locs hw hP hD hS => ?_)
    obtain ⟨w_7, w_8, w_9, w_10, ⟨rfl, hp_11, hp_12⟩, rfl⟩ := hw
    have hP : va_P D vwCl (MW cy a (va_up (va_up (va_up (va_up (va_up J 19 w_7) 20 w_8) 21 w_9) 22 (J 22)) 23 (J 23)) I (va_up (va_up (va_up (va_up R 11 w_2) 12 w_10) 13 (R 13)) 14 (R 14)) RJ) H := hP
    have hD : va_D A (MW cy a (va_up (va_up (va_up (va_up (va_up J 19 w_7) 20 w_8) 21 w_9) 22 (J 22)) 23 (J 23)) I (va_up (va_up (va_up (va_up R 11 w_2) 12 w_10) 13 (R 13)) 14 (R 14)) RJ) := hD
    refine lv_istore_n (lv' := [(3, .int (aCnt fl S)), (0, .ref (a 0)), (1, .int x0), (2, .int x1)]) hx hb dX10_against_14 rfl hl (by decide) rfl (fun ls hl => ?_)
    refine lv_iload_n hx hb dX10_against_15 rfl (lv_at hl 2 rfl) ?_
    refine lv_iconst (v := 0) hx hb dX10_against_16 (by decide) ?_
    refine lv_iload_n hx hb dX10_against_17 rfl (lv_at hl 0 rfl) ?_
    refine lv_iconst (v := 1) hx hb dX10_against_18 (by decide) ?_
    refine lv_isub hx hb dX10_against_19 ?_
    refine kS_i (As := [.int x0, .int 0, .int ((aCnt fl S) - 1)]) (rest := []) ⟨hx, hb, hml, hown, hts⟩ (c_X10_within l x0 0 ((aCnt fl S) - 1)) (va_cwS 3 hts gX10_against_X10_within rfl rfl rfl (by decide +kernel) ⟨Nat.le_of_ble_eq_true rfl, Nat.le_of_ble_eq_true rfl⟩) rfl hl.1 rfl (Nat.le_of_ble_eq_true rfl) dX10_against_20 ⟨Nat.le_of_ble_eq_true rfl, Nat.le_of_ble_eq_true rfl⟩ ?_
    refine lv_if_eq (tgt := 37) hx hb dX10_against_23 (by decide) (fun c_13 => ?_) (fun c_13 => ?_)
    · replace c_13 := bI_f c_13
      refine lv_ldc (v := (-100001)) hx hb hown hw0 dX10_against_37 ?_
      exact wret_i hx hb hr hlocks ((va_up (va_up (va_up (va_up (va_up J 19 w_7) 20 w_8) 21 w_9) 22 (J 22)) 23 (J 23)), I, (va_up (va_up (va_up (va_up R 11 w_2) 12 w_10) 13 (R 13)) 14 (R 14)), RJ) ⟨w_7, w_8, w_9, (J 22), (J 23), w_2, w_10, (R 13), (R 14), ⟨(ag_1 (hp_4.symm.trans c_5) ((wi_cnt (wh_ng (hp_4.symm.trans c_5)) _).symm.trans c_13)), (fun z => absurd ((ag_1 (hp_4.symm.trans c_5) ((wi_cnt (wh_ng (hp_4.symm.trans c_5)) _).symm.trans c_13)).trans z) (by decide)), (fun z => absurd ((ag_1 (hp_4.symm.trans c_5) ((wi_cnt (wh_ng (hp_4.symm.trans c_5)) _).symm.trans c_13)).trans z) (by decide)), (fun z => absurd ((ag_1 (hp_4.symm.trans c_5) ((wi_cnt (wh_ng (hp_4.symm.trans c_5)) _).symm.trans c_13)).trans z) (by decide))⟩, rfl⟩ hP hD hS dX10_against_39
    · replace c_13 := bI_t c_13
      refine lv_iload_n hx hb dX10_against_26 rfl (lv_at hl 3 rfl) ?_
      refine lv_iconst (v := 0) hx hb dX10_against_27 (by decide) ?_
      refine lv_iload_n hx hb dX10_against_28 rfl (lv_at hl 0 rfl) ?_
      refine lv_iconst (v := 1) hx hb dX10_against_29 (by decide) ?_
      refine lv_isub hx hb dX10_against_30 ?_
      refine kS_i (As := [.int x1, .int 0, .int ((aCnt fl S) - 1)]) (rest := []) ⟨hx, hb, hml, hown, hts⟩ (c_X10_within l x1 0 ((aCnt fl S) - 1)) (va_cwS 3 hts gX10_against_X10_within rfl rfl rfl (by decide +kernel) ⟨Nat.le_of_ble_eq_true rfl, Nat.le_of_ble_eq_true rfl⟩) rfl hl.1 rfl (Nat.le_of_ble_eq_true rfl) dX10_against_31 ⟨Nat.le_of_ble_eq_true rfl, Nat.le_of_ble_eq_true rfl⟩ ?_
      refine lv_if_ne (tgt := 40) hx hb dX10_against_34 (by decide) (fun c_14 => ?_) (fun c_14 => ?_)
      · replace c_14 := bI_t c_14
        obtain ⟨na, ea, hza⟩ := ic_nat (wh_ng (hp_4.symm.trans c_5)) ((wi_cnt (wh_ng (hp_4.symm.trans c_5)) _).symm.trans c_13)
        obtain ⟨nb, eb, hzb⟩ := ic_nat (wh_ng (hp_4.symm.trans c_5)) ((wi_cnt (wh_ng (hp_4.symm.trans c_5)) _).symm.trans c_14)
        rw [← hRA.1] at hza hzb
        rw [ea, eb] at hl
        refine lv_aload_n hx hb dX10_against_40 rfl (lv_at hl 1 rfl) ?_
        refine lv_iload_n hx hb dX10_against_41 rfl (lv_at hl 3 rfl) ?_
        refine kM_v (As := [.int (nI nb)]) (rest := []) (q0 := 0) ⟨hx, hb, hml, hown, hts⟩ (x_X10_walk l D cy a _ (va_up (va_up (va_up (va_up (va_up J 19 w_7) 20 w_8) 21 w_9) 22 (J 22)) 23 (J 23)) I (va_up (va_up (va_up (va_up R 11 w_2) 12 w_10) 13 (R 13)) 14 (R 14)) RJ nb hzb hp_11 hp_12 ) (cwV 1 hts gX10_against_X10_walk rfl rfl rfl (by decide +kernel) ⟨Nat.le_of_ble_eq_true rfl, Nat.le_of_ble_eq_true rfl⟩) hK hN hP hD hS hA rfl rfl rfl hl.1 rfl (Nat.le_of_ble_eq_true rfl) dX10_against_42 ⟨Nat.le_of_ble_eq_true rfl, Nat.le_of_ble_eq_true rfl⟩ (fun u H locs hw hP hD hS => ?_)
        obtain ⟨w_16, w_17, hp_18, rfl⟩ := hw
        have hP : va_P D vwCl (MW cy a (va_up (va_up (va_up (va_up (va_up J 19 w_7) 20 w_8) 21 w_9) 22 w_16) 23 w_17) I (va_up (va_up (va_up (va_up R 11 w_2) 12 w_10) 13 (R 13)) 14 (R 14)) RJ) H := hP
        have hD : va_D A (MW cy a (va_up (va_up (va_up (va_up (va_up J 19 w_7) 20 w_8) 21 w_9) 22 w_16) 23 w_17) I (va_up (va_up (va_up (va_up R 11 w_2) 12 w_10) 13 (R 13)) 14 (R 14)) RJ) := hD
        refine lv_aload_n hx hb dX10_against_45 rfl (lv_at hl 1 rfl) ?_
        refine lv_aload_n hx hb dX10_against_46 rfl (lv_at hl 1 rfl) ?_
        refine va_get (D := D) (ci := 9) (v := .long w_16) (C := RX10) (T := TX10) (N := 30) hx hb hts hi10 hown hK hP 0 rfl rfl 22 (by decide) hw1 (fun _ h9 => h9) rfl dX10_against_47 ?_
        refine lv_aload_n hx hb dX10_against_50 rfl (lv_at hl 1 rfl) ?_
        refine va_get (D := D) (ci := 9) (v := .long w_17) (C := RX10) (T := TX10) (N := 30) hx hb hts hi10 hown hK hP 0 rfl rfl 23 (by decide) hw2 (fun _ h9 => h9) rfl dX10_against_51 ?_
        refine lv_aload_n hx hb dX10_against_54 rfl (lv_at hl 1 rfl) ?_
        refine va_get (D := D) (ci := 9) (v := .ref (a 14)) (C := RX10) (T := TX10) (N := 30) hx hb hts hi10 hown hK hP 0 rfl rfl 25 (by decide) hw3 (fun _ h9 => h9) rfl dX10_against_55 ?_
        refine kM_v (As := [.long w_16, .long w_17, .ref (a 14)]) (rest := []) (q0 := 0) ⟨hx, hb, hml, hown, hts⟩ (x_X10_findHeights14 l D cy a _ (va_up (va_up (va_up (va_up (va_up J 19 w_7) 20 w_8) 21 w_9) 22 w_16) 23 w_17) I (va_up (va_up (va_up (va_up R 11 w_2) 12 w_10) 13 (R 13)) 14 (R 14)) RJ w_16 w_17 (zw_ly hp_18 hzb) (wh_oJ hRA.1 (hp_4.symm.trans c_5)) ) (cwV 3 hts gX10_against_X10_findHeights rfl rfl rfl (by decide +kernel) ⟨Nat.le_of_ble_eq_true rfl, Nat.le_of_ble_eq_true rfl⟩) hK hN hP hD hS hA rfl rfl rfl hl.1 rfl (Nat.le_of_ble_eq_true rfl) dX10_against_58 ⟨Nat.le_of_ble_eq_true rfl, Nat.le_of_ble_eq_true rfl⟩ (fun u H locs hw hP hD hS => ?_)
        obtain ⟨w_20, ⟨hp_21, hp_22⟩, rfl⟩ := hw
        have hP : va_P D vwCl (MW cy a (va_up (va_up (va_up (va_up (va_up J 19 w_7) 20 w_8) 21 w_9) 22 w_16) 23 w_17) I (va_up (va_up (va_up (va_up R 11 w_2) 12 w_10) 13 (R 13)) 14 w_20) RJ) H := hP
        have hD : va_D A (MW cy a (va_up (va_up (va_up (va_up (va_up J 19 w_7) 20 w_8) 21 w_9) 22 w_16) 23 w_17) I (va_up (va_up (va_up (va_up R 11 w_2) 12 w_10) 13 (R 13)) 14 w_20) RJ) := hD
        refine lv_aload_n hx hb dX10_against_61 rfl (lv_at hl 1 rfl) ?_
        refine lv_iload_n hx hb dX10_against_62 rfl (lv_at hl 2 rfl) ?_
        refine kM_v (As := [.int (nI na)]) (rest := []) (q0 := 0) ⟨hx, hb, hml, hown, hts⟩ (x_X10_walk l D cy a _ (va_up (va_up (va_up (va_up (va_up J 19 w_7) 20 w_8) 21 w_9) 22 w_16) 23 w_17) I (va_up (va_up (va_up (va_up R 11 w_2) 12 w_10) 13 (R 13)) 14 w_20) RJ na hza hp_11 hp_12 ) (cwV 1 hts gX10_against_X10_walk rfl rfl rfl (by decide +kernel) ⟨Nat.le_of_ble_eq_true rfl, Nat.le_of_ble_eq_true rfl⟩) hK hN hP hD hS hA rfl rfl rfl hl.1 rfl (Nat.le_of_ble_eq_true rfl) dX10_against_63 ⟨Nat.le_of_ble_eq_true rfl, Nat.le_of_ble_eq_true rfl⟩ (fun u H locs hw hP hD hS => ?_)
        obtain ⟨w_24, w_25, hp_26, rfl⟩ := hw
        have hP : va_P D vwCl (MW cy a (va_up (va_up (va_up (va_up (va_up J 19 w_7) 20 w_8) 21 w_9) 22 w_24) 23 w_25) I (va_up (va_up (va_up (va_up R 11 w_2) 12 w_10) 13 (R 13)) 14 w_20) RJ) H := hP
        have hD : va_D A (MW cy a (va_up (va_up (va_up (va_up (va_up J 19 w_7) 20 w_8) 21 w_9) 22 w_24) 23 w_25) I (va_up (va_up (va_up (va_up R 11 w_2) 12 w_10) 13 (R 13)) 14 w_20) RJ) := hD
        refine lv_aload_n hx hb dX10_against_66 rfl (lv_at hl 1 rfl) ?_
        refine lv_aload_n hx hb dX10_against_67 rfl (lv_at hl 1 rfl) ?_
        refine va_get (D := D) (ci := 9) (v := .long w_24) (C := RX10) (T := TX10) (N := 30) hx hb hts hi10 hown hK hP 0 rfl rfl 22 (by decide) hw1 (fun _ h9 => h9) rfl dX10_against_68 ?_
        refine lv_aload_n hx hb dX10_against_71 rfl (lv_at hl 1 rfl) ?_
        refine va_get (D := D) (ci := 9) (v := .long w_25) (C := RX10) (T := TX10) (N := 30) hx hb hts hi10 hown hK hP 0 rfl rfl 23 (by decide) hw2 (fun _ h9 => h9) rfl dX10_against_72 ?_
        refine lv_aload_n hx hb dX10_against_75 rfl (lv_at hl 1 rfl) ?_
        refine va_get (D := D) (ci := 9) (v := .ref (a 13)) (C := RX10) (T := TX10) (N := 30) hx hb hts hi10 hown hK hP 0 rfl rfl 24 (by decide) hw4 (fun _ h9 => h9) rfl dX10_against_76 ?_
        refine kM_v (As := [.long w_24, .long w_25, .ref (a 13)]) (rest := []) (q0 := 0) ⟨hx, hb, hml, hown, hts⟩ (x_X10_findHeights13 l D cy a _ (va_up (va_up (va_up (va_up (va_up J 19 w_7) 20 w_8) 21 w_9) 22 w_24) 23 w_25) I (va_up (va_up (va_up (va_up R 11 w_2) 12 w_10) 13 (R 13)) 14 w_20) RJ w_24 w_25 (zw_ly hp_26 hza) (wh_oJ hRA.1 (hp_4.symm.trans c_5)) ) (cwV 3 hts gX10_against_X10_findHeights rfl rfl rfl (by decide +kernel) ⟨Nat.le_of_ble_eq_true rfl, Nat.le_of_ble_eq_true rfl⟩) hK hN hP hD hS hA rfl rfl rfl hl.1 rfl (Nat.le_of_ble_eq_true rfl) dX10_against_79 ⟨Nat.le_of_ble_eq_true rfl, Nat.le_of_ble_eq_true rfl⟩ (fun u H locs hw hP hD hS => ?_)
        obtain ⟨w_28, ⟨hp_29, hp_30⟩, rfl⟩ := hw
        have hP : va_P D vwCl (MW cy a (va_up (va_up (va_up (va_up (va_up J 19 w_7) 20 w_8) 21 w_9) 22 w_24) 23 w_25) I (va_up (va_up (va_up (va_up R 11 w_2) 12 w_10) 13 w_28) 14 w_20) RJ) H := hP
        have hD : va_D A (MW cy a (va_up (va_up (va_up (va_up (va_up J 19 w_7) 20 w_8) 21 w_9) 22 w_24) 23 w_25) I (va_up (va_up (va_up (va_up R 11 w_2) 12 w_10) 13 w_28) 14 w_20) RJ) := hD
        refine lv_iconst (v := 0) hx hb dX10_against_82 (by decide) ?_
        exact wret_i hx hb hr hlocks ((va_up (va_up (va_up (va_up (va_up J 19 w_7) 20 w_8) 21 w_9) 22 w_24) 23 w_25), I, (va_up (va_up (va_up (va_up R 11 w_2) 12 w_10) 13 w_28) 14 w_20), RJ) ⟨w_7, w_8, w_9, w_24, w_25, w_2, w_10, w_28, w_20, ⟨(ag_3 (hp_4.symm.trans c_5) ((wi_cnt (wh_ng (hp_4.symm.trans c_5)) _).symm.trans c_13) ((wi_cnt (wh_ng (hp_4.symm.trans c_5)) _).symm.trans c_14)), (fun _ => ⟨na, nb, ea, eb, hza, hzb, hp_26, hVal_ly hp_26 hp_29, hVal_ly hp_18 hp_21⟩), (fun _ => ⟨hp_11, hp_12⟩), (fun _ => ⟨hp_30, hp_22⟩)⟩, rfl⟩ hP hD hS dX10_against_83
      · replace c_14 := bI_f c_14
        refine lv_ldc (v := (-100001)) hx hb hown hw0 dX10_against_37 ?_
        exact wret_i hx hb hr hlocks ((va_up (va_up (va_up (va_up (va_up J 19 w_7) 20 w_8) 21 w_9) 22 (J 22)) 23 (J 23)), I, (va_up (va_up (va_up (va_up R 11 w_2) 12 w_10) 13 (R 13)) 14 (R 14)), RJ) ⟨w_7, w_8, w_9, (J 22), (J 23), w_2, w_10, (R 13), (R 14), ⟨(ag_2 (hp_4.symm.trans c_5) ((wi_cnt (wh_ng (hp_4.symm.trans c_5)) _).symm.trans c_14)), (fun z => absurd ((ag_2 (hp_4.symm.trans c_5) ((wi_cnt (wh_ng (hp_4.symm.trans c_5)) _).symm.trans c_14)).trans z) (by decide)), (fun z => absurd ((ag_2 (hp_4.symm.trans c_5) ((wi_cnt (wh_ng (hp_4.symm.trans c_5)) _).symm.trans c_14)).trans z) (by decide)), (fun z => absurd ((ag_2 (hp_4.symm.trans c_5) ((wi_cnt (wh_ng (hp_4.symm.trans c_5)) _).symm.trans c_14)).trans z) (by decide))⟩, rfl⟩ hP hD hS dX10_against_39
  · replace c_5 := bI_f c_5
    refine lv_ldc (v := (-100004)) hx hb hown hw5 dX10_against_7 ?_
    exact wret_i hx hb hr hlocks ((va_up (va_up (va_up (va_up (va_up J 19 (J 19)) 20 (J 20)) 21 (J 21)) 22 (J 22)) 23 (J 23)), I, (va_up (va_up (va_up (va_up R 11 w_2) 12 (R 12)) 13 (R 13)) 14 (R 14)), RJ) ⟨(J 19), (J 20), (J 21), (J 22), (J 23), w_2, (R 12), (R 13), (R 14), ⟨(ag_0 (hp_4.symm.trans c_5)), (fun z => absurd ((ag_0 (hp_4.symm.trans c_5)).trans z) (by decide)), (fun z => absurd ((ag_0 (hp_4.symm.trans c_5)).trans z) (by decide)), (fun z => absurd ((ag_0 (hp_4.symm.trans c_5)).trans z) (by decide))⟩, rfl⟩ hP hD hS dX10_against_9
set_option maxHeartbeats 4000000 in
set_option maxRecDepth 100000 in
theorem x_X10_apartNow (l : Launch) (D : va_G) (cy : Nat → ClassId) (a : Nat → Nat) (sz : Nat) (J : Nat → Int64) (I : Nat → Int32) (R : Nat → Nat → Int32) (RJ : Nat → Nat → Int64)  : Met l yX10_apartNow wsX10_apartNow ({ frames := 1, cells := 0, slots := 0, locals := 29 }) (va_Pc [.ref (a 0)] (PW D cy sz (MW cy a J I R RJ))) (va_Qi (fun r (u : MS) => (r = (apS (R 13) (R 14) 81 / 4) ∧ (r.toInt < 1000000000 ∧ -1000000000 < r.toInt)) ∧ u = (J, I, R, RJ)) (BW D (va_A (MW cy a J I R RJ) sz) (MWu cy a)) (va_A (MW cy a J I R RJ) sz)) 0 0 (va_A (MW cy a J I R RJ) sz) := by
  refine Met.ofW (cc := cX10_apartNow) (maxL := 3) (ret := (some .int)) (by decide) rfl ?_
  intro p e s m args below meth c s₁ B hml hv
  obtain ⟨rfl, rfl, hP, hK, hN, hD0⟩ := hv
  have hx := B.exec
  have hb := B.bytes
  have hr := B.returns
  have hts := atoms_spec (ws := wsX10_apartNow) B.pre
  have hown : s.vm.findClass RX10 = some m.cls := findClass_of_methodNamed B.named
  have hlocks := B.notSynchronized
  have hw0 := hts (.fieldLink RX10 48 "ParquetLayerModel" "one" "[I") (by decide +kernel)
  have hw1 := hts (.fieldLink RX10 51 "ParquetLayerModel" "two" "[I") (by decide +kernel)
  have hw2 := hts (.methodLink RX10 263 Lib.Math.abs.name) (by decide +kernel)
  have hw3 := hts (.static Lib.Math.abs.name) (by decide +kernel)
  have hw4 := hts (.initialized "java/lang/Math") (by decide +kernel)
  have hw5 := hts (.code Lib.Math.abs.name Lib.Math.abs.code 1 (some .int)) (by decide +kernel)
  have hi10 := ihX10_apartNow_10
  have hD := hD0.self (sz := s.heap.size)
  generalize hAe : va_A (MW cy a J I R RJ) s.heap.size = A at hD ⊢
  have hA : ∀ q : Nat, s.heap.size ≤ q → A q := fun q h => by rw [← hAe]; exact Or.inr h
  have hS : va_S A s.heap s.heap [] := va_S.rf
  have hl := lv_entry ([.ref (a 0)]) (n := 3) (Nat.le_of_ble_eq_true rfl)
  rw [lg_entry_eq]
  generalize (lg_sl ([.ref (a 0)]) ++ List.replicate (3 - (lg_sl ([.ref (a 0)])).length) Slot.unset).toArray = ls at hl ⊢
  have hl : lv_has ls 3 [(0, .ref (a 0))] := hl
  have lp4 : ∀ (n4 : Nat), ∀ (i : Nat) (v1_4 : Int32), (i ≤ 81) → (v1_4 = apS (R 13) (R 14) i) → (81 - i) < n4 → ∀ (H : Heap) (locs : List Loc), va_P D vwCl (MW cy a J I R RJ) H → va_D A (MW cy a J I R RJ) → va_S A s.heap H locs → ∀ (ls : Array Slot), lv_has ls 3 [(0, .ref (a 0)), (1, .int v1_4), (2, .int (nI i))] → W p l e (headSpec wsX10_apartNow ({ frames := 1, cells := 0, slots := 0, locals := 29 })).room s m ([.ref (a 0)] : List Value).toArray below meth c H locs 0 0 (MQ below (va_Qi (fun r (u : MS) => (r = (apS (R 13) (R 14) 81 / 4) ∧ (r.toInt < 1000000000 ∧ -1000000000 < r.toInt)) ∧ u = (J, I, R, RJ)) (BW D A (MWu cy a)) A) ([.ref (a 0)] : List Value).toArray s 0 0 A) (F0 m 4 ls []) := by
    intro n4
    induction n4 with
    | zero => intro i v1_4 hi hsm hn; exact absurd hn (Nat.not_lt_zero _)
    | succ n4 ih4 =>
      intro i v1_4 hi hsm hn4 H locs hP hD hS ls hl
      refine lv_iload_n hx hb dX10_apartNow_4 rfl (lv_at hl 2 rfl) ?_
      refine lv_bipush (v := 81) hx hb dX10_apartNow_5 (by decide) ?_
      refine lv_icmp_ge (tgt := 35) hx hb dX10_apartNow_7 (by decide) (fun c_1 => ?_) (fun c_1 => ?_)
      · have hie_i := ctr_ge (N := 81) (by decide) hi c_1
        refine lv_iload_n hx hb dX10_apartNow_35 rfl (lv_at hl 1 rfl) ?_
        refine lv_iconst (v := 4) hx hb dX10_apartNow_36 (by decide) ?_
        refine lv_idiv hx hb dX10_apartNow_37 (by decide) ?_
        exact wret_i hx hb hr hlocks (J, I, R, RJ) ⟨⟨(by rw [hsm, hie_i]), (div4 _)⟩, rfl⟩ hP hD hS dX10_apartNow_38
      · have hlt_i := ctr_lt (N := 81) (by decide) hi c_1
        refine lv_iload_n hx hb dX10_apartNow_10 rfl (lv_at hl 1 rfl) ?_
        refine lv_aload_n hx hb dX10_apartNow_11 rfl (lv_at hl 0 rfl) ?_
        refine va_get (D := D) (ci := 9) (v := .ref (a 13)) (C := RX10) (T := TX10) (N := 30) hx hb hts hi10 hown hK hP 0 rfl rfl 24 (by decide) hw0 (fun _ h9 => h9) rfl dX10_apartNow_12 ?_
        refine lv_iload_n hx hb dX10_apartNow_15 rfl (lv_at hl 2 rfl) ?_
        refine va_iald hx hb hK hP 13 0 rfl rfl (vp_in_nI hlt_i (by decide)) dX10_apartNow_16 ?_
        refine lv_aload_n hx hb dX10_apartNow_17 rfl (lv_at hl 0 rfl) ?_
        refine va_get (D := D) (ci := 9) (v := .ref (a 14)) (C := RX10) (T := TX10) (N := 30) hx hb hts hi10 hown hK hP 0 rfl rfl 25 (by decide) hw1 (fun _ h9 => h9) rfl dX10_apartNow_18 ?_
        refine lv_iload_n hx hb dX10_apartNow_21 rfl (lv_at hl 2 rfl) ?_
        refine va_iald hx hb hK hP 14 0 rfl rfl (vp_in_nI hlt_i (by decide)) dX10_apartNow_22 ?_
        refine lv_isub hx hb dX10_apartNow_23 ?_
        refine va_mabs hx hb (by rw [hml]; exact hl.1.symm) hown hw2 hw3 hw4 hw5 (Nat.le_of_ble_eq_true rfl) (Nat.le_of_ble_eq_true rfl) (Nat.le_of_ble_eq_true rfl) (Nat.le_of_ble_eq_true rfl) dX10_apartNow_24 ?_
        refine lv_iadd hx hb dX10_apartNow_27 ?_
        refine lv_istore_n (lv' := [(1, .int (v1_4 + (if 0 ≤ (((R 13) (nI i).toNatClampNeg) - ((R 14) (nI i).toNatClampNeg)) then (((R 13) (nI i).toNatClampNeg) - ((R 14) (nI i).toNatClampNeg)) else 0 - (((R 13) (nI i).toNatClampNeg) - ((R 14) (nI i).toNatClampNeg))))), (0, .ref (a 0)), (2, .int (nI i))]) hx hb dX10_apartNow_28 rfl hl (by decide) rfl (fun ls hl => ?_)
        refine lv_iinc (v := nI (i + 1)) (lv' := [(2, .int (nI (i + 1))), (1, .int (v1_4 + (if 0 ≤ (((R 13) (nI i).toNatClampNeg) - ((R 14) (nI i).toNatClampNeg)) then (((R 13) (nI i).toNatClampNeg) - ((R 14) (nI i).toNatClampNeg)) else 0 - (((R 13) (nI i).toNatClampNeg) - ((R 14) (nI i).toNatClampNeg))))), (0, .ref (a 0))]) hx hb dX10_apartNow_29 hl (k := 2) rfl (nI_1 _) (by decide) rfl (fun ls hl => ?_)
        refine lv_goto (tgt := 4) hx hb dX10_apartNow_32 (by decide) ?_
        exact ih4 (i + 1) (v1_4 + (if 0 ≤ (((R 13) (nI i).toNatClampNeg) - ((R 14) (nI i).toNatClampNeg)) then (((R 13) (nI i).toNatClampNeg) - ((R 14) (nI i).toNatClampNeg)) else 0 - (((R 13) (nI i).toNatClampNeg) - ((R 14) (nI i).toNatClampNeg)))) hlt_i (apS_s hlt_i hsm) (lt_dec hlt_i hn4) _ _ hP hD hS ls (lv_sub hl [2, 1, 0] rfl)
  refine lv_iconst (v := 0) hx hb dX10_apartNow_0 (by decide) ?_
  refine lv_istore_n (lv' := [(1, .int 0), (0, .ref (a 0))]) hx hb dX10_apartNow_1 rfl hl (by decide) rfl (fun ls hl => ?_)
  refine lv_iconst (v := 0) hx hb dX10_apartNow_2 (by decide) ?_
  refine lv_istore_n (lv' := [(2, .int 0), (1, .int 0), (0, .ref (a 0))]) hx hb dX10_apartNow_3 rfl hl (by decide) rfl (fun ls hl => ?_)
  exact lp4 _ 0 (0 : Int32) (Nat.zero_le _) rfl (Nat.lt_succ_self _) _ _ hP hD hS ls (lv_sub hl [2, 1, 0] rfl)
set_option maxHeartbeats 4000000 in
set_option maxRecDepth 100000 in
theorem x_X10_apart (l : Launch) (D : va_G) (cy : Nat → ClassId) (a : Nat → Nat) (sz : Nat) (J : Nat → Int64) (I : Nat → Int32) (R : Nat → Nat → Int32) (RJ : Nat → Nat → Int64) (x0 : Int32) (x1 : Int32) (fl : Int64) (S : List Int32) (P : List PE) (hRA : RMf (J 0) (I 1) (I 12) (R 1) (R 3) (R 4) (RJ 2) fl S P) (hG : gInv fl S) (hM : MI I R) : Met l yX10_apart wsX10_apart ({ frames := 7, cells := 0, slots := 0, locals := 159 }) (va_Pc [.ref (a 0), .int x0, .int x1] (PW D cy sz (MW cy a J I R RJ))) (va_Qi (fun r (u : MS) => ∃ (w0 : Int64), ∃ (w1 : Int64), ∃ (w2 : Int64), ∃ (w3 : Int64), ∃ (w4 : Int64), ∃ (w5 : Int32), ∃ (w6 : Nat → Int32), ∃ (w7 : Nat → Int32), ∃ (w8 : Nat → Int32), ∃ (w9 : Nat → Int32), (r = (aApa fl S x0 x1)) ∧ u = ((va_up (va_up (va_up (va_up (va_up J 19 w0) 20 w1) 21 w2) 22 w3) 23 w4), (va_up I 13 w5), (va_up (va_up (va_up (va_up R 11 w6) 12 w7) 13 w8) 14 w9), RJ)) (BW D (va_A (MW cy a J I R RJ) sz) (MWu cy a)) (va_A (MW cy a J I R RJ) sz)) 0 0 (va_A (MW cy a J I R RJ) sz) := by
  refine Met.ofW (cc := cX10_apart) (maxL := 4) (ret := (some .int)) (by decide) rfl ?_
  intro p e s m args below meth c s₁ B hml hv
  obtain ⟨rfl, rfl, hP, hK, hN, hD0⟩ := hv
  have hx := B.exec
  have hb := B.bytes
  have hr := B.returns
  have hts := atoms_spec (ws := wsX10_apart) B.pre
  have hown : s.vm.findClass RX10 = some m.cls := findClass_of_methodNamed B.named
  have hlocks := B.notSynchronized
  have hD := hD0.self (sz := s.heap.size)
  generalize hAe : va_A (MW cy a J I R RJ) s.heap.size = A at hD ⊢
  have hA : ∀ q : Nat, s.heap.size ≤ q → A q := fun q h => by rw [← hAe]; exact Or.inr h
  have hS : va_S A s.heap s.heap [] := va_S.rf
  have hl := lv_entry ([.ref (a 0), .int x0, .int x1]) (n := 4) (Nat.le_of_ble_eq_true rfl)
  rw [lg_entry_eq]
  generalize (lg_sl ([.ref (a 0), .int x0, .int x1]) ++ List.replicate (4 - (lg_sl ([.ref (a 0), .int x0, .int x1])).length) Slot.unset).toArray = ls at hl ⊢
  have hl : lv_has ls 4 [(0, .ref (a 0)), (1, .int x0), (2, .int x1)] := hl
  have hP : va_P D vwCl (MW cy a (va_up (va_up (va_up (va_up (va_up J 19 (J 19)) 20 (J 20)) 21 (J 21)) 22 (J 22)) 23 (J 23)) (va_up I 13 (I 13)) (va_up (va_up (va_up (va_up R 11 (R 11)) 12 (R 12)) 13 (R 13)) 14 (R 14)) RJ) s.heap := hP
  have hD : va_D A (MW cy a (va_up (va_up (va_up (va_up (va_up J 19 (J 19)) 20 (J 20)) 21 (J 21)) 22 (J 22)) 23 (J 23)) (va_up I 13 (I 13)) (va_up (va_up (va_up (va_up R 11 (R 11)) 12 (R 12)) 13 (R 13)) 14 (R 14)) RJ) := hD
  refine lv_aload_n hx hb dX10_apart_0 rfl (lv_at hl 0 rfl) ?_
  refine lv_iload_n hx hb dX10_apart_1 rfl (lv_at hl 1 rfl) ?_
  refine lv_iload_n hx hb dX10_apart_2 rfl (lv_at hl 2 rfl) ?_
  refine kM_i (As := [.int x0, .int x1]) (rest := []) (q0 := 0) ⟨hx, hb, hml, hown, hts⟩ (x_X10_against l D cy a _ (va_up (va_up (va_up (va_up (va_up J 19 (J 19)) 20 (J 20)) 21 (J 21)) 22 (J 22)) 23 (J 23)) (va_up I 13 (I 13)) (va_up (va_up (va_up (va_up R 11 (R 11)) 12 (R 12)) 13 (R 13)) 14 (R 14)) RJ x0 x1 fl S P hRA hG ⟨hM.1, hM.2.1, hM.2.2.1, hM.2.2.2.1, hM.2.2.2.2.1, hM.2.2.2.2.2⟩) (cwV 2 hts gX10_apart_X10_against rfl rfl rfl (by decide +kernel) ⟨Nat.le_of_ble_eq_true rfl, Nat.le_of_ble_eq_true rfl⟩) hK hN hP hD hS hA rfl rfl rfl hl.1 rfl (Nat.le_of_ble_eq_true rfl) dX10_apart_3 ⟨Nat.le_of_ble_eq_true rfl, Nat.le_of_ble_eq_true rfl⟩ (fun r_1 u H locs hw hP hD hS => ?_)
  obtain ⟨w_2, w_3, w_4, w_5, w_6, w_7, w_8, w_9, w_10, ⟨rfl, hp_11, hp_12, hp_13⟩, rfl⟩ := hw
  have hP : va_P D vwCl (MW cy a (va_up (va_up (va_up (va_up (va_up J 19 w_2) 20 w_3) 21 w_4) 22 w_5) 23 w_6) (va_up I 13 (I 13)) (va_up (va_up (va_up (va_up R 11 w_7) 12 w_8) 13 w_9) 14 w_10) RJ) H := hP
  have hD : va_D A (MW cy a (va_up (va_up (va_up (va_up (va_up J 19 w_2) 20 w_3) 21 w_4) 22 w_5) 23 w_6) (va_up I 13 (I 13)) (va_up (va_up (va_up (va_up R 11 w_7) 12 w_8) 13 w_9) 14 w_10) RJ) := hD
  refine lv_istore_n (lv' := [(3, .int (aAg fl S x0 x1)), (0, .ref (a 0)), (1, .int x0), (2, .int x1)]) hx hb dX10_apart_6 rfl hl (by decide) rfl (fun ls hl => ?_)
  refine lv_iload_n hx hb dX10_apart_7 rfl (lv_at hl 0 rfl) ?_
  refine lv_if_eq (tgt := 19) hx hb dX10_apart_8 (by decide) (fun c_14 => ?_) (fun c_14 => ?_)
  · refine lv_aload_n hx hb dX10_apart_19 rfl (lv_at hl 1 rfl) ?_
    refine kM_i (As := []) (rest := []) (q0 := 0) ⟨hx, hb, hml, hown, hts⟩ (x_X10_apartNow l D cy a _ (va_up (va_up (va_up (va_up (va_up J 19 w_2) 20 w_3) 21 w_4) 22 w_5) 23 w_6) (va_up I 13 (I 13)) (va_up (va_up (va_up (va_up R 11 w_7) 12 w_8) 13 w_9) 14 w_10) RJ   ) (cwV 0 hts gX10_apart_X10_apartNow rfl rfl rfl (by decide +kernel) ⟨Nat.le_of_ble_eq_true rfl, Nat.le_of_ble_eq_true rfl⟩) hK hN hP hD hS hA rfl rfl rfl hl.1 rfl (Nat.le_of_ble_eq_true rfl) dX10_apart_20 ⟨Nat.le_of_ble_eq_true rfl, Nat.le_of_ble_eq_true rfl⟩ (fun r_15 u H locs hw hP hD hS => ?_)
    obtain ⟨⟨rfl, hp_16⟩, rfl⟩ := hw
    have hP : va_P D vwCl (MW cy a (va_up (va_up (va_up (va_up (va_up J 19 w_2) 20 w_3) 21 w_4) 22 w_5) 23 w_6) (va_up I 13 (I 13)) (va_up (va_up (va_up (va_up R 11 w_7) 12 w_8) 13 w_9) 14 w_10) RJ) H := hP
    have hD : va_D A (MW cy a (va_up (va_up (va_up (va_up (va_up J 19 w_2) 20 w_3) 21 w_4) 22 w_5) 23 w_6) (va_up I 13 (I 13)) (va_up (va_up (va_up (va_up R 11 w_7) 12 w_8) 13 w_9) 14 w_10) RJ) := hD
    exact wret_i hx hb hr hlocks ((va_up (va_up (va_up (va_up (va_up J 19 w_2) 20 w_3) 21 w_4) 22 w_5) 23 w_6), (va_up I 13 (I 13)), (va_up (va_up (va_up (va_up R 11 w_7) 12 w_8) 13 w_9) 14 w_10), RJ) ⟨w_2, w_3, w_4, w_5, w_6, (I 13), w_7, w_8, w_9, w_10, (ap_fin hRA.1 c_14 (hp_11 c_14)), rfl⟩ hP hD hS dX10_apart_23
  · refine lv_aload_n hx hb dX10_apart_11 rfl (lv_at hl 1 rfl) ?_
    refine lv_iload_n hx hb dX10_apart_12 rfl (lv_at hl 0 rfl) ?_
    refine kM_i (As := [.int (aAg fl S x0 x1)]) (rest := []) (q0 := 0) ⟨hx, hb, hml, hown, hts⟩ (c_X10_finding l D cy a _ (va_up (va_up (va_up (va_up (va_up J 19 w_2) 20 w_3) 21 w_4) 22 w_5) 23 w_6) (va_up I 13 (I 13)) (va_up (va_up (va_up (va_up R 11 w_7) 12 w_8) 13 w_9) 14 w_10) RJ (aAg fl S x0 x1) ) (cwV 1 hts gX10_apart_X10_finding rfl rfl rfl (by decide +kernel) ⟨Nat.le_of_ble_eq_true rfl, Nat.le_of_ble_eq_true rfl⟩) hK hN hP hD hS hA rfl rfl rfl hl.1 rfl (Nat.le_of_ble_eq_true rfl) dX10_apart_13 ⟨Nat.le_of_ble_eq_true rfl, Nat.le_of_ble_eq_true rfl⟩ (fun r_17 u H locs hw hP hD hS => ?_)
    obtain ⟨rfl, rfl⟩ := hw
    have hP : va_P D vwCl (MW cy a (va_up (va_up (va_up (va_up (va_up J 19 w_2) 20 w_3) 21 w_4) 22 w_5) 23 w_6) (va_up I 13 ((I 13) + 1)) (va_up (va_up (va_up (va_up R 11 w_7) 12 w_8) 13 w_9) 14 w_10) RJ) H := hP
    have hD : va_D A (MW cy a (va_up (va_up (va_up (va_up (va_up J 19 w_2) 20 w_3) 21 w_4) 22 w_5) 23 w_6) (va_up I 13 ((I 13) + 1)) (va_up (va_up (va_up (va_up R 11 w_7) 12 w_8) 13 w_9) 14 w_10) RJ) := hD
    refine lv_goto (tgt := 23) hx hb dX10_apart_16 (by decide) ?_
    exact wret_i hx hb hr hlocks ((va_up (va_up (va_up (va_up (va_up J 19 w_2) 20 w_3) 21 w_4) 22 w_5) 23 w_6), (va_up I 13 ((I 13) + 1)), (va_up (va_up (va_up (va_up R 11 w_7) 12 w_8) 13 w_9) 14 w_10), RJ) ⟨w_2, w_3, w_4, w_5, w_6, ((I 13) + 1), w_7, w_8, w_9, w_10, (ap_no c_14), rfl⟩ hP hD hS dX10_apart_23
