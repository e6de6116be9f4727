set_option maxHeartbeats 4000000 in
set_option maxRecDepth 100000 in
theorem x_X10_step (l : Launch) (D : va_G) (cy : Nat → ClassId) (a : Nat → Nat) (sz : Nat) (J : Nat → Int64) (I : Nat → Int32) (R : Nat → Nat → Int32) (RJ : Nat → Nat → Int64) (x0 : Int32) (x1 : Int32) (x2 : Int32) (fl : Int64) (S : List Int32) (P : List PE) (hRA : RMf (J 0) (I 1) (I 12) (R 1) (R 3) (R 4) (RJ 2) fl S P) (hG : gInv fl S) (hM : MI I R) : Met l yX10_step wsX10_step ({ frames := 7, cells := 0, slots := 0, locals := 159 }) (va_Pc [.ref (a 0), .int x0, .int x1, .int x2] (PW D cy sz (MW cy a J I R RJ))) (va_Qi (fun r (u : MS) => ∃ (w0 : Int64), ∃ (w1 : Int64), ∃ (w2 : Int64), ∃ (w3 : Int64), ∃ (w4 : Int64), ∃ (w5 : Int32), ∃ (w6 : Nat → Int32), ∃ (w7 : Nat → Int32), ∃ (w8 : Nat → Int32), ∃ (w9 : Nat → Int32), (r = (aStp fl S x0 x1 x2)) ∧ u = ((va_up (va_up (va_up (va_up (va_up J 19 w0) 20 w1) 21 w2) 22 w3) 23 w4), (va_up I 13 w5), (va_up (va_up (va_up (va_up R 11 w6) 12 w7) 13 w8) 14 w9), RJ)) (BW D (va_A (MW cy a J I R RJ) sz) (MWu cy a)) (va_A (MW cy a J I R RJ) sz)) 0 0 (va_A (MW cy a J I R RJ) sz) := by
  refine Met.ofW (cc := cX10_step) (maxL := 8) (ret := (some .int)) (by decide) rfl ?_
  intro p e s m args below meth c s₁ B hml hv
  obtain ⟨rfl, rfl, hP, hK, hN, hD0⟩ := hv
  have hx := B.exec
  have hb := B.bytes
  have hr := B.returns
  have hts := atoms_spec (ws := wsX10_step) B.pre
  have hown : s.vm.findClass RX10 = some m.cls := findClass_of_methodNamed B.named
  have hlocks := B.notSynchronized
  have hw0 := hts (.fieldLink RX10 210 "ParquetLayerModel" "walkAlong" "J") (by decide +kernel)
  have hw1 := hts (.fieldLink RX10 213 "ParquetLayerModel" "walkAcross" "J") (by decide +kernel)
  have hw2 := hts (.fieldLink RX10 48 "ParquetLayerModel" "one" "[I") (by decide +kernel)
  have hw3 := hts (.constant RX10 98 (-100006)) (by decide +kernel)
  have hi10 := ihX10_step_10
  have hD := hD0.self (sz := s.heap.size)
  generalize hAe : va_A (MW cy a J I R RJ) s.heap.size = A at hD ⊢
  have hA : ∀ q : Nat, s.heap.size ≤ q → A q := fun q h => by rw [← hAe]; exact Or.inr h
  have hS : va_S A s.heap s.heap [] := va_S.rf
  have hl := lv_entry ([.ref (a 0), .int x0, .int x1, .int x2]) (n := 8) (Nat.le_of_ble_eq_true rfl)
  rw [lg_entry_eq]
  generalize (lg_sl ([.ref (a 0), .int x0, .int x1, .int x2]) ++ List.replicate (8 - (lg_sl ([.ref (a 0), .int x0, .int x1, .int x2])).length) Slot.unset).toArray = ls at hl ⊢
  have hl : lv_has ls 8 [(0, .ref (a 0)), (1, .int x0), (2, .int x1), (3, .int x2)] := hl
  have hP : va_P D vwCl (MW cy a (va_up (va_up (va_up (va_up (va_up J 19 (J 19)) 20 (J 20)) 21 (J 21)) 22 (J 22)) 23 (J 23)) (va_up I 13 (I 13)) (va_up (va_up (va_up (va_up R 11 (R 11)) 12 (R 12)) 13 (R 13)) 14 (R 14)) RJ) s.heap := hP
  have hD : va_D A (MW cy a (va_up (va_up (va_up (va_up (va_up J 19 (J 19)) 20 (J 20)) 21 (J 21)) 22 (J 22)) 23 (J 23)) (va_up I 13 (I 13)) (va_up (va_up (va_up (va_up R 11 (R 11)) 12 (R 12)) 13 (R 13)) 14 (R 14)) RJ) := hD
  have lp47 : ∀ (n47 : Nat), ∀ (k : Nat) (nn : Nat) (v5_47 : Int32) (m0_47 : Int64) (m1_47 : Int64) (m2_47 : Int64) (m3_47 : Int64) (m4_47 : Int64) (m5_47 : Int32) (m6_47 : Nat → Int32) (m7_47 : Nat → Int32) (m8_47 : Nat → Int32) (m9_47 : Nat → Int32), (k ≤ (nn + 1)) → (aAg fl S x0 x1 = 0) → (m0_47 = 0 ∧ m1_47 = 0 ∧ m2_47 = 0) → (nn < 81000) → (x2 = nI nn) → (4 * ((nn : Int) + 1) ≤ suI (dfI (J 0) (zLy (J 0) x0.toNatClampNeg) (zLy (J 0) x1.toNatClampNeg)) 81) → (SPk (J 0) (zLy (J 0) x0.toNatClampNeg) (zLy (J 0) x1.toNatClampNeg) k (m3_47, m4_47) m8_47 m9_47) → (k = 0 ∨ v5_47 = zlw (zqB (J 0) (zch (J 0) (zLy (J 0) x1.toNatClampNeg) (k - 1) (zLy (J 0) x0.toNatClampNeg)) (zLy (J 0) x1.toNatClampNeg)) 55) → ((nn + 1) - k) < n47 → ∀ (H : Heap) (locs : List Loc), va_P D vwCl (MW cy a (va_up (va_up (va_up (va_up (va_up J 19 m0_47) 20 m1_47) 21 m2_47) 22 m3_47) 23 m4_47) (va_up I 13 m5_47) (va_up (va_up (va_up (va_up R 11 m6_47) 12 m7_47) 13 m8_47) 14 m9_47) RJ) H → va_D A (MW cy a (va_up (va_up (va_up (va_up (va_up J 19 m0_47) 20 m1_47) 21 m2_47) 22 m3_47) 23 m4_47) (va_up I 13 m5_47) (va_up (va_up (va_up (va_up R 11 m6_47) 12 m7_47) 13 m8_47) 14 m9_47) RJ) → va_S A s.heap H locs → ∀ (ls : Array Slot), lv_has ls 8 [(0, .ref (a 0)), (3, .int (nI nn)), (5, .int v5_47), (6, .int (nI k))] → W p l e (headSpec wsX10_step ({ frames := 7, cells := 0, slots := 0, locals := 159 })).room s m ([.ref (a 0), .int x0, .int x1, .int x2] : List Value).toArray below meth c H locs 0 0 (MQ below (va_Qi (fun r (u : MS) => ∃ (w0 : Int64), ∃ (w1 : Int64), ∃ (w2 : Int64), ∃ (w3 : Int64), ∃ (w4 : Int64), ∃ (w5 : Int32), ∃ (w6 : Nat → Int32), ∃ (w7 : Nat → Int32), ∃ (w8 : Nat → Int32), ∃ (w9 : Nat → Int32), (r = (aStp fl S x0 x1 x2)) ∧ u = ((va_up (va_up (va_up (va_up (va_up J 19 w0) 20 w1) 21 w2) 22 w3) 23 w4), (va_up I 13 w5), (va_up (va_up (va_up (va_up R 11 w6) 12 w7) 13 w8) 14 w9), RJ)) (BW D A (MWu cy a)) A) ([.ref (a 0), .int x0, .int x1, .int x2] : List Value).toArray s 0 0 A) (F0 m 47 ls []) := by
    intro n47
    induction n47 with
    | zero => intro k nn v5_47 m0_47 m1_47 m2_47 m3_47 m4_47 m5_47 m6_47 m7_47 m8_47 m9_47 hk h0 hz0 hnn ex2 h4n hsp hv5 hn; exact absurd hn (Nat.not_lt_zero _)
    | succ n47 ih47 =>
      intro k nn v5_47 m0_47 m1_47 m2_47 m3_47 m4_47 m5_47 m6_47 m7_47 m8_47 m9_47 hk h0 hz0 hnn ex2 h4n hsp hv5 hn47 H locs hP hD hS ls hl
      refine lv_iload hx hb dX10_step_47 (lv_at hl 3 rfl) ?_
      refine lv_iload_n hx hb dX10_step_49 rfl (lv_at hl 1 rfl) ?_
      refine lv_icmp_gt (tgt := 138) hx hb dX10_step_50 (by decide) (fun c_1 => ?_) (fun c_1 => ?_)
      · refine lv_iload hx hb dX10_step_138 (lv_at hl 2 rfl) ?_
        exact wret_i hx hb hr hlocks ((va_up (va_up (va_up (va_up (va_up J 19 m0_47) 20 m1_47) 21 m2_47) 22 m3_47) 23 m4_47), (va_up I 13 m5_47), (va_up (va_up (va_up (va_up R 11 m6_47) 12 m7_47) 13 m8_47) 14 m9_47), RJ) ⟨m0_47, m1_47, m2_47, m3_47, m4_47, m5_47, m6_47, m7_47, m8_47, m9_47, (as_fin hRA.1 h0 ex2 hnn h4n hk c_1 hv5), rfl⟩ hP hD hS dX10_step_140
      · have hkn : k ≤ nn := kn_le hnn hk c_1
        refine lv_aload_n hx hb dX10_step_53 rfl (lv_at hl 0 rfl) ?_
        refine kM_i (As := []) (rest := []) (q0 := 0) ⟨hx, hb, hml, hown, hts⟩ (x_X10_nearer l D cy a _ (va_up (va_up (va_up (va_up (va_up J 19 m0_47) 20 m1_47) 21 m2_47) 22 m3_47) 23 m4_47) (va_up I 13 m5_47) (va_up (va_up (va_up (va_up R 11 m6_47) 12 m7_47) 13 m8_47) 14 m9_47) RJ  (zLy (J 0) x1.toNatClampNeg) hsp.2.1 hz0.1 hz0.2.1 hsp.2.2.2.1 hsp.2.2.2.2.1 ) (cwV 0 hts gX10_step_X10_nearer rfl rfl rfl (by decide +kernel) ⟨Nat.le_of_ble_eq_true rfl, Nat.le_of_ble_eq_true rfl⟩) hK hN hP hD hS hA rfl rfl rfl hl.1 rfl (Nat.le_of_ble_eq_true rfl) dX10_step_54 ⟨Nat.le_of_ble_eq_true rfl, Nat.le_of_ble_eq_true rfl⟩ (fun r_2 u H locs hw hP hD hS => ?_)
        obtain ⟨hp_3, rfl⟩ := hw
        have hP : va_P D vwCl (MW cy a (va_up (va_up (va_up (va_up (va_up J 19 m0_47) 20 m1_47) 21 m2_47) 22 m3_47) 23 m4_47) (va_up I 13 m5_47) (va_up (va_up (va_up (va_up R 11 m6_47) 12 m7_47) 13 m8_47) 14 m9_47) RJ) H := hP
        have hD : va_D A (MW cy a (va_up (va_up (va_up (va_up (va_up J 19 m0_47) 20 m1_47) 21 m2_47) 22 m3_47) 23 m4_47) (va_up I 13 m5_47) (va_up (va_up (va_up (va_up R 11 m6_47) 12 m7_47) 13 m8_47) 14 m9_47) RJ) := hD
        obtain ⟨f9, hf9, ef9, hzq9⟩ := sp_f (wh_oJ hRA.1 (ag_w h0)) hsp (k4 hkn h4n)
        refine wtop_i (y := nI f9) (hp_3.trans ef9) ?_
        have hf64 : f9 < 64 := Nat.lt_trans hf9 (by decide)
        refine lv_istore (lv' := [(5, .int (nI f9)), (0, .ref (a 0)), (3, .int (nI nn)), (6, .int (nI k))]) hx hb dX10_step_57 hl (by decide) rfl (fun ls hl => ?_)
        refine lv_iload hx hb dX10_step_59 (lv_at hl 0 rfl) ?_
        refine lv_aload_n hx hb dX10_step_61 rfl (lv_at hl 1 rfl) ?_
        refine lv_aload_n hx hb dX10_step_62 rfl (lv_at hl 1 rfl) ?_
        refine va_get (D := D) (ci := 9) (v := .long m3_47) (C := RX10) (T := TX10) (N := 30) hx hb hts hi10 hown hK hP 0 rfl rfl 22 (by decide) hw0 (fun _ h9 => h9) rfl dX10_step_63 ?_
        refine lv_aload_n hx hb dX10_step_66 rfl (lv_at hl 1 rfl) ?_
        refine va_get (D := D) (ci := 9) (v := .long m4_47) (C := RX10) (T := TX10) (N := 30) hx hb hts hi10 hown hK hP 0 rfl rfl 23 (by decide) hw1 (fun _ h9 => h9) rfl dX10_step_67 ?_
        refine lv_iload hx hb dX10_step_70 (lv_at hl 0 rfl) ?_
        refine kM_i (As := [.long m3_47, .long m4_47, .int (nI f9)]) (rest := [.int (nI f9)]) (q0 := 0) ⟨hx, hb, hml, hown, hts⟩ (x_X10_turnAt l D cy a _ (va_up (va_up (va_up (va_up (va_up J 19 m0_47) 20 m1_47) 21 m2_47) 22 m3_47) 23 m4_47) (va_up I 13 m5_47) (va_up (va_up (va_up (va_up R 11 m6_47) 12 m7_47) 13 m8_47) 14 m9_47) RJ m3_47 m4_47 f9 hf64 hz0.1 hz0.2.1 ) (cwV 3 hts gX10_step_X10_turnAt rfl rfl rfl (by decide +kernel) ⟨Nat.le_of_ble_eq_true rfl, Nat.le_of_ble_eq_true rfl⟩) hK hN hP hD hS hA rfl rfl rfl hl.1 rfl (Nat.le_of_ble_eq_true rfl) dX10_step_72 ⟨Nat.le_of_ble_eq_true rfl, Nat.le_of_ble_eq_true rfl⟩ (fun r_4 u H locs hw hP hD hS => ?_)
        obtain ⟨⟨hp_5, hp_6⟩, rfl⟩ := hw
        have hP : va_P D vwCl (MW cy a (va_up (va_up (va_up (va_up (va_up J 19 m0_47) 20 m1_47) 21 m2_47) 22 m3_47) 23 m4_47) (va_up I 13 m5_47) (va_up (va_up (va_up (va_up R 11 m6_47) 12 m7_47) 13 m8_47) 14 m9_47) RJ) H := hP
        have hD : va_D A (MW cy a (va_up (va_up (va_up (va_up (va_up J 19 m0_47) 20 m1_47) 21 m2_47) 22 m3_47) 23 m4_47) (va_up I 13 m5_47) (va_up (va_up (va_up (va_up R 11 m6_47) 12 m7_47) 13 m8_47) 14 m9_47) RJ) := hD
        refine kS_i (As := [.int (nI f9), .int r_4]) (rest := []) ⟨hx, hb, hml, hown, hts⟩ (c_X10_isDown l (nI f9) r_4) (va_cwS 2 hts gX10_step_X10_isDown rfl rfl rfl (by decide +kernel) ⟨Nat.le_of_ble_eq_true rfl, Nat.le_of_ble_eq_true rfl⟩) rfl hl.1 rfl (Nat.le_of_ble_eq_true rfl) dX10_step_75 ⟨Nat.le_of_ble_eq_true rfl, Nat.le_of_ble_eq_true rfl⟩ ?_
        refine lv_if_eq (tgt := 86) hx hb dX10_step_78 (by decide) (fun c_7 => ?_) (fun c_7 => ?_)
        · replace c_7 := bI_f c_7
          refine lv_iconst (v := 4) hx hb dX10_step_86 (by decide) ?_
          refine lv_istore (lv' := [(7, .int 4), (5, .int (nI f9)), (0, .ref (a 0)), (3, .int (nI nn)), (6, .int (nI k))]) hx hb dX10_step_87 hl (by decide) rfl (fun ls hl => ?_)
          refine lv_aload_n hx hb dX10_step_89 rfl (lv_at hl 2 rfl) ?_
          refine lv_dup hx hb dX10_step_90 rfl ?_
          refine va_get (D := D) (ci := 9) (v := .long m3_47) (C := RX10) (T := TX10) (N := 30) hx hb hts hi10 hown hK hP 0 rfl rfl 22 (by decide) hw0 (fun _ h9 => h9) rfl dX10_step_91 ?_
          refine lv_iload hx hb dX10_step_94 (lv_at hl 1 rfl) ?_
          refine kS_l (As := [.int (nI f9)]) (rest := [.long m3_47, .ref (a 0)]) ⟨hx, hb, hml, hown, hts⟩ (c_X10_alongAt l (nI f9)) (va_cwS 1 hts gX10_step_X10_alongAt rfl rfl rfl (by decide +kernel) ⟨Nat.le_of_ble_eq_true rfl, Nat.le_of_ble_eq_true rfl⟩) rfl hl.1 rfl (Nat.le_of_ble_eq_true rfl) dX10_step_96 ⟨Nat.le_of_ble_eq_true rfl, Nat.le_of_ble_eq_true rfl⟩ ?_
          refine lv_lxor hx hb dX10_step_99 ?_
          refine va_put (D := D) (ci := 9) (v := .long (m3_47 ^^^ (m_alongAt (nI f9)))) (ty := .long) (C := RX10) (T := TX10) (N := 30) hx hb hts hi10 tyX10 tyX10_ok nmX10 hown hK hP hD hS 0 rfl rfl 22 (by decide) hw0 (fun _ h9 => h9) rfl (by decide +kernel) rfl rfl (Nat.le_of_ble_eq_true rfl) dX10_step_100 (fun H locs hP hD hS => ?_)
          have hP : va_P D vwCl (MW cy a (va_up (va_up (va_up (va_up (va_up J 19 m0_47) 20 m1_47) 21 m2_47) 22 (m3_47 ^^^ (m_alongAt (nI f9)))) 23 m4_47) (va_up I 13 m5_47) (va_up (va_up (va_up (va_up R 11 m6_47) 12 m7_47) 13 m8_47) 14 m9_47) RJ) H := hP
          have hD : va_D A (MW cy a (va_up (va_up (va_up (va_up (va_up J 19 m0_47) 20 m1_47) 21 m2_47) 22 (m3_47 ^^^ (m_alongAt (nI f9)))) 23 m4_47) (va_up I 13 m5_47) (va_up (va_up (va_up (va_up R 11 m6_47) 12 m7_47) 13 m8_47) 14 m9_47) RJ) := hD
          refine lv_aload_n hx hb dX10_step_103 rfl (lv_at hl 2 rfl) ?_
          refine lv_dup hx hb dX10_step_104 rfl ?_
          refine va_get (D := D) (ci := 9) (v := .long m4_47) (C := RX10) (T := TX10) (N := 30) hx hb hts hi10 hown hK hP 0 rfl rfl 23 (by decide) hw1 (fun _ h9 => h9) rfl dX10_step_105 ?_
          refine lv_iload hx hb dX10_step_108 (lv_at hl 1 rfl) ?_
          refine kS_l (As := [.int (nI f9)]) (rest := [.long m4_47, .ref (a 0)]) ⟨hx, hb, hml, hown, hts⟩ (c_X10_acrossAt l (nI f9)) (va_cwS 1 hts gX10_step_X10_acrossAt rfl rfl rfl (by decide +kernel) ⟨Nat.le_of_ble_eq_true rfl, Nat.le_of_ble_eq_true rfl⟩) rfl hl.1 rfl (Nat.le_of_ble_eq_true rfl) dX10_step_110 ⟨Nat.le_of_ble_eq_true rfl, Nat.le_of_ble_eq_true rfl⟩ ?_
          refine lv_lxor hx hb dX10_step_113 ?_
          refine va_put (D := D) (ci := 9) (v := .long (m4_47 ^^^ (m_acrossAt (nI f9)))) (ty := .long) (C := RX10) (T := TX10) (N := 30) hx hb hts hi10 tyX10 tyX10_ok nmX10 hown hK hP hD hS 0 rfl rfl 23 (by decide) hw1 (fun _ h9 => h9) rfl (by decide +kernel) rfl rfl (Nat.le_of_ble_eq_true rfl) dX10_step_114 (fun H locs hP hD hS => ?_)
          have hP : va_P D vwCl (MW cy a (va_up (va_up (va_up (va_up (va_up J 19 m0_47) 20 m1_47) 21 m2_47) 22 (m3_47 ^^^ (m_alongAt (nI f9)))) 23 (m4_47 ^^^ (m_acrossAt (nI f9)))) (va_up I 13 m5_47) (va_up (va_up (va_up (va_up R 11 m6_47) 12 m7_47) 13 m8_47) 14 m9_47) RJ) H := hP
          have hD : va_D A (MW cy a (va_up (va_up (va_up (va_up (va_up J 19 m0_47) 20 m1_47) 21 m2_47) 22 (m3_47 ^^^ (m_alongAt (nI f9)))) 23 (m4_47 ^^^ (m_acrossAt (nI f9)))) (va_up I 13 m5_47) (va_up (va_up (va_up (va_up R 11 m6_47) 12 m7_47) 13 m8_47) 14 m9_47) RJ) := hD
          refine lv_aload_n hx hb dX10_step_117 rfl (lv_at hl 2 rfl) ?_
          refine va_get (D := D) (ci := 9) (v := .ref (a 13)) (C := RX10) (T := TX10) (N := 30) hx hb hts hi10 hown hK hP 0 rfl rfl 24 (by decide) hw2 (fun _ h9 => h9) rfl dX10_step_118 ?_
          refine lv_iload hx hb dX10_step_121 (lv_at hl 1 rfl) ?_
          refine kS_i (As := [.int (nI f9)]) (rest := [.ref (a 13)]) ⟨hx, hb, hml, hown, hts⟩ (c_X10_midst l (nI f9)) (va_cwS 1 hts gX10_step_X10_midst rfl rfl rfl (by decide +kernel) ⟨Nat.le_of_ble_eq_true rfl, Nat.le_of_ble_eq_true rfl⟩) rfl hl.1 rfl (Nat.le_of_ble_eq_true rfl) dX10_step_123 ⟨Nat.le_of_ble_eq_true rfl, Nat.le_of_ble_eq_true rfl⟩ ?_
          refine lv_dup2_11 hx hb dX10_step_126 rfl rfl ?_
          refine va_iald hx hb hK hP 13 0 rfl rfl (mid_t ⟨f9, hf64⟩) dX10_step_127 ?_
          refine lv_iload hx hb dX10_step_128 (lv_at hl 0 rfl) ?_
          refine lv_iadd hx hb dX10_step_130 ?_
          refine va_iast hx hb hK hP hD hS 13 0 rfl rfl (mid_t ⟨f9, hf64⟩) dX10_step_131 (fun H locs hP hD hS => ?_)
          have hP : va_P D vwCl (MW cy a (va_up (va_up (va_up (va_up (va_up J 19 m0_47) 20 m1_47) 21 m2_47) 22 (m3_47 ^^^ (m_alongAt (nI f9)))) 23 (m4_47 ^^^ (m_acrossAt (nI f9)))) (va_up I 13 m5_47) (va_up (va_up (va_up (va_up R 11 m6_47) 12 m7_47) 13 (upd m8_47 (m_midst (nI f9)).toNatClampNeg ((m8_47 (m_midst (nI f9)).toNatClampNeg) + 4))) 14 m9_47) RJ) H := hP
          have hD : va_D A (MW cy a (va_up (va_up (va_up (va_up (va_up J 19 m0_47) 20 m1_47) 21 m2_47) 22 (m3_47 ^^^ (m_alongAt (nI f9)))) 23 (m4_47 ^^^ (m_acrossAt (nI f9)))) (va_up I 13 m5_47) (va_up (va_up (va_up (va_up R 11 m6_47) 12 m7_47) 13 (upd m8_47 (m_midst (nI f9)).toNatClampNeg ((m8_47 (m_midst (nI f9)).toNatClampNeg) + 4))) 14 m9_47) RJ) := hD
          refine lv_iinc (v := nI (k + 1)) (lv' := [(6, .int (nI (k + 1))), (7, .int 4), (5, .int (nI f9)), (0, .ref (a 0)), (3, .int (nI nn))]) hx hb dX10_step_132 hl (k := 4) rfl (nI_1 _) (by decide) rfl (fun ls hl => ?_)
          refine lv_goto (tgt := 47) hx hb dX10_step_135 (by decide) ?_
          exact ih47 (k + 1) nn (nI f9) m0_47 m1_47 m2_47 (m3_47 ^^^ (m_alongAt (nI f9))) (m4_47 ^^^ (m_acrossAt (nI f9))) m5_47 m6_47 m7_47 (upd m8_47 (m_midst (nI f9)).toNatClampNeg ((m8_47 (m_midst (nI f9)).toNatClampNeg) + 4)) m9_47 (Nat.succ_le_succ hkn) h0 hz0 hnn ex2 h4n (by rw [mid_e ⟨f9, hf64⟩]; exact sp_s (wh_oJ hRA.1 (ag_w h0)) hsp hf9 ef9 hzq9 (zlt_u hp_6 c_7)) (Or.inr (by rw [Nat.add_sub_cancel, ← hsp.1]; exact ef9.symm)) (lt_dec (Nat.lt_succ_of_le hkn) hn47) _ _ hP hD hS ls (lv_sub hl [3, 4, 2, 0] rfl)
        · replace c_7 := bI_t c_7
          refine lv_bipush (v := (-4)) hx hb dX10_step_81 (by decide) ?_
          refine lv_goto (tgt := 87) hx hb dX10_step_83 (by decide) ?_
          refine lv_istore (lv' := [(7, .int (-4)), (5, .int (nI f9)), (0, .ref (a 0)), (3, .int (nI nn)), (6, .int (nI k))]) hx hb dX10_step_87 hl (by decide) rfl (fun ls hl => ?_)
          refine lv_aload_n hx hb dX10_step_89 rfl (lv_at hl 2 rfl) ?_
          refine lv_dup hx hb dX10_step_90 rfl ?_
          refine va_get (D := D) (ci := 9) (v := .long m3_47) (C := RX10) (T := TX10) (N := 30) hx hb hts hi10 hown hK hP 0 rfl rfl 22 (by decide) hw0 (fun _ h9 => h9) rfl dX10_step_91 ?_
          refine lv_iload hx hb dX10_step_94 (lv_at hl 1 rfl) ?_
          refine kS_l (As := [.int (nI f9)]) (rest := [.long m3_47, .ref (a 0)]) ⟨hx, hb, hml, hown, hts⟩ (c_X10_alongAt l (nI f9)) (va_cwS 1 hts gX10_step_X10_alongAt rfl rfl rfl (by decide +kernel) ⟨Nat.le_of_ble_eq_true rfl, Nat.le_of_ble_eq_true rfl⟩) rfl hl.1 rfl (Nat.le_of_ble_eq_true rfl) dX10_step_96 ⟨Nat.le_of_ble_eq_true rfl, Nat.le_of_ble_eq_true rfl⟩ ?_
          refine lv_lxor hx hb dX10_step_99 ?_
          refine va_put (D := D) (ci := 9) (v := .long (m3_47 ^^^ (m_alongAt (nI f9)))) (ty := .long) (C := RX10) (T := TX10) (N := 30) hx hb hts hi10 tyX10 tyX10_ok nmX10 hown hK hP hD hS 0 rfl rfl 22 (by decide) hw0 (fun _ h9 => h9) rfl (by decide +kernel) rfl rfl (Nat.le_of_ble_eq_true rfl) dX10_step_100 (fun H locs hP hD hS => ?_)
          have hP : va_P D vwCl (MW cy a (va_up (va_up (va_up (va_up (va_up J 19 m0_47) 20 m1_47) 21 m2_47) 22 (m3_47 ^^^ (m_alongAt (nI f9)))) 23 m4_47) (va_up I 13 m5_47) (va_up (va_up (va_up (va_up R 11 m6_47) 12 m7_47) 13 m8_47) 14 m9_47) RJ) H := hP
          have hD : va_D A (MW cy a (va_up (va_up (va_up (va_up (va_up J 19 m0_47) 20 m1_47) 21 m2_47) 22 (m3_47 ^^^ (m_alongAt (nI f9)))) 23 m4_47) (va_up I 13 m5_47) (va_up (va_up (va_up (va_up R 11 m6_47) 12 m7_47) 13 m8_47) 14 m9_47) RJ) := hD
          refine lv_aload_n hx hb dX10_step_103 rfl (lv_at hl 2 rfl) ?_
          refine lv_dup hx hb dX10_step_104 rfl ?_
          refine va_get (D := D) (ci := 9) (v := .long m4_47) (C := RX10) (T := TX10) (N := 30) hx hb hts hi10 hown hK hP 0 rfl rfl 23 (by decide) hw1 (fun _ h9 => h9) rfl dX10_step_105 ?_
          refine lv_iload hx hb dX10_step_108 (lv_at hl 1 rfl) ?_
          refine kS_l (As := [.int (nI f9)]) (rest := [.long m4_47, .ref (a 0)]) ⟨hx, hb, hml, hown, hts⟩ (c_X10_acrossAt l (nI f9)) (va_cwS 1 hts gX10_step_X10_acrossAt rfl rfl rfl (by decide +kernel) ⟨Nat.le_of_ble_eq_true rfl, Nat.le_of_ble_eq_true rfl⟩) rfl hl.1 rfl (Nat.le_of_ble_eq_true rfl) dX10_step_110 ⟨Nat.le_of_ble_eq_true rfl, Nat.le_of_ble_eq_true rfl⟩ ?_
          refine lv_lxor hx hb dX10_step_113 ?_
          refine va_put (D := D) (ci := 9) (v := .long (m4_47 ^^^ (m_acrossAt (nI f9)))) (ty := .long) (C := RX10) (T := TX10) (N := 30) hx hb hts hi10 tyX10 tyX10_ok nmX10 hown hK hP hD hS 0 rfl rfl 23 (by decide) hw1 (fun _ h9 => h9) rfl (by decide +kernel) rfl rfl (Nat.le_of_ble_eq_true rfl) dX10_step_114 (fun H locs hP hD hS => ?_)
          have hP : va_P D vwCl (MW cy a (va_up (va_up (va_up (va_up (va_up J 19 m0_47) 20 m1_47) 21 m2_47) 22 (m3_47 ^^^ (m_alongAt (nI f9)))) 23 (m4_47 ^^^ (m_acrossAt (nI f9)))) (va_up I 13 m5_47) (va_up (va_up (va_up (va_up R 11 m6_47) 12 m7_47) 13 m8_47) 14 m9_47) RJ) H := hP
          have hD : va_D A (MW cy a (va_up (va_up (va_up (va_up (va_up J 19 m0_47) 20 m1_47) 21 m2_47) 22 (m3_47 ^^^ (m_alongAt (nI f9)))) 23 (m4_47 ^^^ (m_acrossAt (nI f9)))) (va_up I 13 m5_47) (va_up (va_up (va_up (va_up R 11 m6_47) 12 m7_47) 13 m8_47) 14 m9_47) RJ) := hD
          refine lv_aload_n hx hb dX10_step_117 rfl (lv_at hl 2 rfl) ?_
          refine va_get (D := D) (ci := 9) (v := .ref (a 13)) (C := RX10) (T := TX10) (N := 30) hx hb hts hi10 hown hK hP 0 rfl rfl 24 (by decide) hw2 (fun _ h9 => h9) rfl dX10_step_118 ?_
          refine lv_iload hx hb dX10_step_121 (lv_at hl 1 rfl) ?_
          refine kS_i (As := [.int (nI f9)]) (rest := [.ref (a 13)]) ⟨hx, hb, hml, hown, hts⟩ (c_X10_midst l (nI f9)) (va_cwS 1 hts gX10_step_X10_midst rfl rfl rfl (by decide +kernel) ⟨Nat.le_of_ble_eq_true rfl, Nat.le_of_ble_eq_true rfl⟩) rfl hl.1 rfl (Nat.le_of_ble_eq_true rfl) dX10_step_123 ⟨Nat.le_of_ble_eq_true rfl, Nat.le_of_ble_eq_true rfl⟩ ?_
          refine lv_dup2_11 hx hb dX10_step_126 rfl rfl ?_
          refine va_iald hx hb hK hP 13 0 rfl rfl (mid_t ⟨f9, hf64⟩) dX10_step_127 ?_
          refine lv_iload hx hb dX10_step_128 (lv_at hl 0 rfl) ?_
          refine lv_iadd hx hb dX10_step_130 ?_
          refine va_iast hx hb hK hP hD hS 13 0 rfl rfl (mid_t ⟨f9, hf64⟩) dX10_step_131 (fun H locs hP hD hS => ?_)
          have hP : va_P D vwCl (MW cy a (va_up (va_up (va_up (va_up (va_up J 19 m0_47) 20 m1_47) 21 m2_47) 22 (m3_47 ^^^ (m_alongAt (nI f9)))) 23 (m4_47 ^^^ (m_acrossAt (nI f9)))) (va_up I 13 m5_47) (va_up (va_up (va_up (va_up R 11 m6_47) 12 m7_47) 13 (upd m8_47 (m_midst (nI f9)).toNatClampNeg ((m8_47 (m_midst (nI f9)).toNatClampNeg) + (-4)))) 14 m9_47) RJ) H := hP
          have hD : va_D A (MW cy a (va_up (va_up (va_up (va_up (va_up J 19 m0_47) 20 m1_47) 21 m2_47) 22 (m3_47 ^^^ (m_alongAt (nI f9)))) 23 (m4_47 ^^^ (m_acrossAt (nI f9)))) (va_up I 13 m5_47) (va_up (va_up (va_up (va_up R 11 m6_47) 12 m7_47) 13 (upd m8_47 (m_midst (nI f9)).toNatClampNeg ((m8_47 (m_midst (nI f9)).toNatClampNeg) + (-4)))) 14 m9_47) RJ) := hD
          refine lv_iinc (v := nI (k + 1)) (lv' := [(6, .int (nI (k + 1))), (7, .int (-4)), (5, .int (nI f9)), (0, .ref (a 0)), (3, .int (nI nn))]) hx hb dX10_step_132 hl (k := 4) rfl (nI_1 _) (by decide) rfl (fun ls hl => ?_)
          refine lv_goto (tgt := 47) hx hb dX10_step_135 (by decide) ?_
          exact ih47 (k + 1) nn (nI f9) m0_47 m1_47 m2_47 (m3_47 ^^^ (m_alongAt (nI f9))) (m4_47 ^^^ (m_acrossAt (nI f9))) m5_47 m6_47 m7_47 (upd m8_47 (m_midst (nI f9)).toNatClampNeg ((m8_47 (m_midst (nI f9)).toNatClampNeg) + (-4))) m9_47 (Nat.succ_le_succ hkn) h0 hz0 hnn ex2 h4n (by rw [mid_e ⟨f9, hf64⟩]; exact sp_s (wh_oJ hRA.1 (ag_w h0)) hsp hf9 ef9 hzq9 (zlt_d hp_6 c_7)) (Or.inr (by rw [Nat.add_sub_cancel, ← hsp.1]; exact ef9.symm)) (lt_dec (Nat.lt_succ_of_le hkn) hn47) _ _ hP hD hS ls (lv_sub hl [3, 4, 2, 0] rfl)
  refine lv_aload_n hx hb dX10_step_0 rfl (lv_at hl 0 rfl) ?_
  refine lv_iload_n hx hb dX10_step_1 rfl (lv_at hl 1 rfl) ?_
  refine lv_iload_n hx hb dX10_step_2 rfl (lv_at hl 2 rfl) ?_
  refine kM_i (As := [.int x0, .int x1]) (rest := []) (q0 := 0) ⟨hx, hb, hml, hown, hts⟩ (x_X10_against l D cy a _ (va_up (va_up (va_up (va_up (va_up J 19 (J 19)) 20 (J 20)) 21 (J 21)) 22 (J 22)) 23 (J 23)) (va_up I 13 (I 13)) (va_up (va_up (va_up (va_up R 11 (R 11)) 12 (R 12)) 13 (R 13)) 14 (R 14)) RJ x0 x1 fl S P hRA hG ⟨hM.1, hM.2.1, hM.2.2.1, hM.2.2.2.1, hM.2.2.2.2.1, hM.2.2.2.2.2⟩) (cwV 2 hts gX10_step_X10_against rfl rfl rfl (by decide +kernel) ⟨Nat.le_of_ble_eq_true rfl, Nat.le_of_ble_eq_true rfl⟩) hK hN hP hD hS hA rfl rfl rfl hl.1 rfl (Nat.le_of_ble_eq_true rfl) dX10_step_3 ⟨Nat.le_of_ble_eq_true rfl, Nat.le_of_ble_eq_true rfl⟩ (fun r_8 u H locs hw hP hD hS => ?_)
  obtain ⟨w_9, w_10, w_11, w_12, w_13, w_14, w_15, w_16, w_17, ⟨rfl, hp_18, hp_19, hp_20⟩, rfl⟩ := hw
  have hP : va_P D vwCl (MW cy a (va_up (va_up (va_up (va_up (va_up J 19 w_9) 20 w_10) 21 w_11) 22 w_12) 23 w_13) (va_up I 13 (I 13)) (va_up (va_up (va_up (va_up R 11 w_14) 12 w_15) 13 w_16) 14 w_17) RJ) H := hP
  have hD : va_D A (MW cy a (va_up (va_up (va_up (va_up (va_up J 19 w_9) 20 w_10) 21 w_11) 22 w_12) 23 w_13) (va_up I 13 (I 13)) (va_up (va_up (va_up (va_up R 11 w_14) 12 w_15) 13 w_16) 14 w_17) RJ) := hD
  refine lv_istore (lv' := [(4, .int (aAg fl S x0 x1)), (0, .ref (a 0)), (1, .int x0), (2, .int x1), (3, .int x2)]) hx hb dX10_step_6 hl (by decide) rfl (fun ls hl => ?_)
  refine lv_iload hx hb dX10_step_8 (lv_at hl 0 rfl) ?_
  refine lv_if_eq (tgt := 20) hx hb dX10_step_10 (by decide) (fun c_21 => ?_) (fun c_21 => ?_)
  · obtain ⟨hAn, hAl, hva, hvb⟩ := AgP_n (hp_18 c_21)
    have hg2 := hp_19 c_21
    have hg3 := hp_20 c_21
    have hAI := ap_I (p := (zLy (J 0) x0.toNatClampNeg)) (q := (zLy (J 0) x1.toNatClampNeg)) hva hvb hg3.1 hg3.2
    refine lv_iload_n hx hb dX10_step_20 rfl (lv_at hl 4 rfl) ?_
    refine lv_iconst (v := 0) hx hb dX10_step_21 (by decide) ?_
    refine lv_aload_n hx hb dX10_step_22 rfl (lv_at hl 1 rfl) ?_
    refine kM_i (As := []) (rest := [.int 0, .int x2]) (q0 := 0) ⟨hx, hb, hml, hown, hts⟩ (x_X10_apartNow l D cy a _ (va_up (va_up (va_up (va_up (va_up J 19 w_9) 20 w_10) 21 w_11) 22 w_12) 23 w_13) (va_up I 13 (I 13)) (va_up (va_up (va_up (va_up R 11 w_14) 12 w_15) 13 w_16) 14 w_17) RJ   ) (cwV 0 hts gX10_step_X10_apartNow rfl rfl rfl (by decide +kernel) ⟨Nat.le_of_ble_eq_true rfl, Nat.le_of_ble_eq_true rfl⟩) hK hN hP hD hS hA rfl rfl rfl hl.1 rfl (Nat.le_of_ble_eq_true rfl) dX10_step_23 ⟨Nat.le_of_ble_eq_true rfl, Nat.le_of_ble_eq_true rfl⟩ (fun r_22 u H locs hw hP hD hS => ?_)
    obtain ⟨⟨rfl, hp_23⟩, rfl⟩ := hw
    have hP : va_P D vwCl (MW cy a (va_up (va_up (va_up (va_up (va_up J 19 w_9) 20 w_10) 21 w_11) 22 w_12) 23 w_13) (va_up I 13 (I 13)) (va_up (va_up (va_up (va_up R 11 w_14) 12 w_15) 13 w_16) 14 w_17) RJ) H := hP
    have hD : va_D A (MW cy a (va_up (va_up (va_up (va_up (va_up J 19 w_9) 20 w_10) 21 w_11) 22 w_12) 23 w_13) (va_up I 13 (I 13)) (va_up (va_up (va_up (va_up R 11 w_14) 12 w_15) 13 w_16) 14 w_17) RJ) := hD
    refine lv_iconst (v := 1) hx hb dX10_step_26 (by decide) ?_
    refine lv_isub hx hb dX10_step_27 ?_
    refine kS_i (As := [.int x2, .int 0, .int ((apS w_16 w_17 81 / 4) - 1)]) (rest := []) ⟨hx, hb, hml, hown, hts⟩ (c_X10_within l x2 0 ((apS w_16 w_17 81 / 4) - 1)) (va_cwS 3 hts gX10_step_X10_within rfl rfl rfl (by decide +kernel) ⟨Nat.le_of_ble_eq_true rfl, Nat.le_of_ble_eq_true rfl⟩) rfl hl.1 rfl (Nat.le_of_ble_eq_true rfl) dX10_step_28 ⟨Nat.le_of_ble_eq_true rfl, Nat.le_of_ble_eq_true rfl⟩ ?_
    refine lv_if_ne (tgt := 41) hx hb dX10_step_31 (by decide) (fun c_24 => ?_) (fun c_24 => ?_)
    · replace c_24 := bI_t c_24
      obtain ⟨nn, hnn, ex2, h4n⟩ := rg_n hAI.2 ((rg_1 hAI.1 (suI_nn _ _) hAI.2).mp c_24)
      rw [ex2] at hl
      refine lv_iconst (v := (-1)) hx hb dX10_step_41 (by decide) ?_
      refine lv_istore (lv' := [(5, .int (-1)), (4, .int (aAg fl S x0 x1)), (0, .ref (a 0)), (1, .int x0), (2, .int x1), (3, .int (nI nn))]) hx hb dX10_step_42 hl (by decide) rfl (fun ls hl => ?_)
      refine lv_iconst (v := 0) hx hb dX10_step_44 (by decide) ?_
      refine lv_istore (lv' := [(6, .int 0), (5, .int (-1)), (4, .int (aAg fl S x0 x1)), (0, .ref (a 0)), (1, .int x0), (2, .int x1), (3, .int (nI nn))]) hx hb dX10_step_45 hl (by decide) rfl (fun ls hl => ?_)
      exact lp47 _ 0 nn ((-1) : Int32) w_9 w_10 w_11 w_12 w_13 (I 13) w_14 w_15 w_16 w_17 (Nat.zero_le _) c_21 hg2.1 hnn ex2 h4n (sp_0e hAl (zLy_LY hAn.1) (zLy_LY hAn.2) (hVI_of hva) (hVI_of hvb)) (Or.inl rfl) (Nat.lt_succ_self _) _ _ hP hD hS ls (lv_sub hl [3, 6, 1, 0] rfl)
    · replace c_24 := bI_f c_24
      refine lv_aload_n hx hb dX10_step_34 rfl (lv_at hl 1 rfl) ?_
      refine lv_ldc (v := (-100006)) hx hb hown hw3 dX10_step_35 ?_
      refine kM_i (As := [.int (-100006)]) (rest := []) (q0 := 0) ⟨hx, hb, hml, hown, hts⟩ (c_X10_finding l D cy a _ (va_up (va_up (va_up (va_up (va_up J 19 w_9) 20 w_10) 21 w_11) 22 w_12) 23 w_13) (va_up I 13 (I 13)) (va_up (va_up (va_up (va_up R 11 w_14) 12 w_15) 13 w_16) 14 w_17) RJ (-100006) ) (cwV 1 hts gX10_step_X10_finding rfl rfl rfl (by decide +kernel) ⟨Nat.le_of_ble_eq_true rfl, Nat.le_of_ble_eq_true rfl⟩) hK hN hP hD hS hA rfl rfl rfl hl.1 rfl (Nat.le_of_ble_eq_true rfl) dX10_step_37 ⟨Nat.le_of_ble_eq_true rfl, Nat.le_of_ble_eq_true rfl⟩ (fun r_25 u H locs hw hP hD hS => ?_)
      obtain ⟨rfl, rfl⟩ := hw
      have hP : va_P D vwCl (MW cy a (va_up (va_up (va_up (va_up (va_up J 19 w_9) 20 w_10) 21 w_11) 22 w_12) 23 w_13) (va_up I 13 ((I 13) + 1)) (va_up (va_up (va_up (va_up R 11 w_14) 12 w_15) 13 w_16) 14 w_17) RJ) H := hP
      have hD : va_D A (MW cy a (va_up (va_up (va_up (va_up (va_up J 19 w_9) 20 w_10) 21 w_11) 22 w_12) 23 w_13) (va_up I 13 ((I 13) + 1)) (va_up (va_up (va_up (va_up R 11 w_14) 12 w_15) 13 w_16) 14 w_17) RJ) := hD
      exact wret_i hx hb hr hlocks ((va_up (va_up (va_up (va_up (va_up J 19 w_9) 20 w_10) 21 w_11) 22 w_12) 23 w_13), (va_up I 13 ((I 13) + 1)), (va_up (va_up (va_up (va_up R 11 w_14) 12 w_15) 13 w_16) 14 w_17), RJ) ⟨w_9, w_10, w_11, w_12, w_13, ((I 13) + 1), w_14, w_15, w_16, w_17, (as_outJ hRA.1 c_21 (fun z => absurd ((rg_1 hAI.1 (suI_nn _ _) hAI.2).mpr z) (by rw [c_24]; decide))), rfl⟩ hP hD hS dX10_step_40
  · refine lv_aload_n hx hb dX10_step_13 rfl (lv_at hl 1 rfl) ?_
    refine lv_iload hx hb dX10_step_14 (lv_at hl 0 rfl) ?_
    refine kM_i (As := [.int (aAg fl S x0 x1)]) (rest := []) (q0 := 0) ⟨hx, hb, hml, hown, hts⟩ (c_X10_finding l D cy a _ (va_up (va_up (va_up (va_up (va_up J 19 w_9) 20 w_10) 21 w_11) 22 w_12) 23 w_13) (va_up I 13 (I 13)) (va_up (va_up (va_up (va_up R 11 w_14) 12 w_15) 13 w_16) 14 w_17) RJ (aAg fl S x0 x1) ) (cwV 1 hts gX10_step_X10_finding rfl rfl rfl (by decide +kernel) ⟨Nat.le_of_ble_eq_true rfl, Nat.le_of_ble_eq_true rfl⟩) hK hN hP hD hS hA rfl rfl rfl hl.1 rfl (Nat.le_of_ble_eq_true rfl) dX10_step_16 ⟨Nat.le_of_ble_eq_true rfl, Nat.le_of_ble_eq_true rfl⟩ (fun r_26 u H locs hw hP hD hS => ?_)
    obtain ⟨rfl, rfl⟩ := hw
    have hP : va_P D vwCl (MW cy a (va_up (va_up (va_up (va_up (va_up J 19 w_9) 20 w_10) 21 w_11) 22 w_12) 23 w_13) (va_up I 13 ((I 13) + 1)) (va_up (va_up (va_up (va_up R 11 w_14) 12 w_15) 13 w_16) 14 w_17) RJ) H := hP
    have hD : va_D A (MW cy a (va_up (va_up (va_up (va_up (va_up J 19 w_9) 20 w_10) 21 w_11) 22 w_12) 23 w_13) (va_up I 13 ((I 13) + 1)) (va_up (va_up (va_up (va_up R 11 w_14) 12 w_15) 13 w_16) 14 w_17) RJ) := hD
    exact wret_i hx hb hr hlocks ((va_up (va_up (va_up (va_up (va_up J 19 w_9) 20 w_10) 21 w_11) 22 w_12) 23 w_13), (va_up I 13 ((I 13) + 1)), (va_up (va_up (va_up (va_up R 11 w_14) 12 w_15) 13 w_16) 14 w_17), RJ) ⟨w_9, w_10, w_11, w_12, w_13, ((I 13) + 1), w_14, w_15, w_16, w_17, (as_no rfl c_21), rfl⟩ hP hD hS dX10_step_19
