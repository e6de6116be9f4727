theorem ctr_lt2 {i N : Nat} (hN : N < 2147483648) (hi : i < 2147483648) (c : ¬ nI N ≤ nI i) : i < N := by
  rcases Nat.lt_or_ge i N with h | h
  · exact h
  · exact absurd ((nI_leI (a := N) (b := i) hN hi).mpr h) c
theorem i32_rng (x : Int32) : -2147483648 ≤ x.toInt ∧ x.toInt < 2147483648 := ⟨Int32.le_toInt x, Int32.toInt_lt x⟩
theorem within_iff {x lo hi : Int32} : m_within x lo hi = true ↔ lo.toInt ≤ x.toInt ∧ x.toInt ≤ hi.toInt := by
  simp [m_within, Int32.lt_iff_toInt_lt]
theorem within_in4 {x : Int32} (h : m_within x 0 3 = true) : vp_in x 4 := by
  simp [m_within, Int32.lt_iff_toInt_lt] at h
  rw [vp_in_iff]
  omega
theorem within_in64 {x : Int32} (h : m_within x 0 63 = true) : vp_in x 64 := by
  simp [m_within, Int32.lt_iff_toInt_lt] at h
  rw [vp_in_iff]
  omega
theorem ix16 {x : Int32} {i : Nat} (h : vp_in x 4) (hi : i < 16) : vp_in (16 * x + nI i) 64 := by
  obtain ⟨j, hj, rfl⟩ := vp_in_of h (by decide)
  have e : (16 : Int32) * nI j + nI i = nI (16 * j + i) := by
    rw [← nI_add, ← pk_mul]; rfl
  rw [e]
  exact vp_in_nI (by omega) (by decide)
theorem nI_int {j : Nat} (h : j < 2147483647) : (nI j).toInt = j := by
  have h1 := vp_in_iff.mp (vp_in_nI (N := j + 1) (Nat.lt_succ_self j) (by omega))
  have h2 := nI_clamp (n := j) (by omega)
  have h3 : (nI j).toNatClampNeg = (nI j).toInt.toNat := rfl
  omega
theorem sub1_int {z : Int32} {n : Nat} (h : vp_in z (n + 1)) (hn : n < 2147483647) : (z - 1).toInt = z.toInt - 1 := by
  obtain ⟨j, hj, rfl⟩ := vp_in_of h (by omega)
  cases j with
  | zero => decide
  | succ j => rw [nI_s1, nI_int (by omega), nI_int (by omega)]; omega
theorem st_in {x z : Int32} (h : vp_in z 21) (hw : m_within x 0 (z - 1) = true) : vp_in x 20 := by
  rw [within_iff, sub1_int (n := 20) h (by decide)] at hw
  rw [vp_in_iff] at *
  have : (0 : Int32).toInt = 0 := rfl
  omega
theorem sz_in {x z : Int32} (h : vp_in z 17) (hw : m_within x 0 (z - 1) = true) : vp_in x 16 := by
  rw [within_iff, sub1_int (n := 16) h (by decide)] at hw
  rw [vp_in_iff] at *
  have : (0 : Int32).toInt = 0 := rfl
  omega
theorem put_in {x y z : Int32} (hx : vp_in x 4) (hz : vp_in z 17) (hw : m_within y 0 (z - 1) = true) : vp_in (16 * x + y) 64 := by
  obtain ⟨j, hj, rfl⟩ := vp_in_of (sz_in hz hw) (by decide)
  exact ix16 hx hj
theorem in17 {x : Int32} (h0 : (0 : Int32) ≤ x) (h1 : x ≤ 16) : vp_in x 17 := by
  rw [Int32.le_iff_toInt_le] at h0 h1
  rw [vp_in_iff]
  have e0 : (0 : Int32).toInt = 0 := rfl
  have e1 : (16 : Int32).toInt = 16 := rfl
  omega
def a_sheet (q bits n : Int32) : Int32 := if m_within q 0 3 && (decide (bits = 0) || decide (bits = 8) || decide (bits = 16) || decide (bits = 32)) then (if n < 0 then (-100003) else if 16 < n then (-100001) else if bits = 0 then 0 else n) else (-100001)
theorem dX10_newFloor_49 : decode cX10_newFloor 49 = .ok (.iload_n 3, 1) := by decide +kernel
theorem dX10_newFloor_50 : decode cX10_newFloor 50 = .ok (.aload_n 0, 1) := by decide +kernel
theorem dX10_newFloor_51 : decode cX10_newFloor 51 = .ok (.getfield 85, 3) := by decide +kernel
theorem dX10_newFloor_54 : decode cX10_newFloor 54 = .ok (.if_icmp .ge 42, 3) := by decide +kernel
theorem dX10_newFloor_96 : decode cX10_newFloor 96 = .ok (.aload_n 0, 1) := by decide +kernel
set_option maxRecDepth 20000 in
theorem ggX10_newFloor_X10_keep : GoodIn wsX10_newFloor wsX10_keep := goodIn_r _ [47, 48, 49, 50, 51, 52, 53, 54, 5, 1, 55, 56, 57, 11, 61, 62, 63, 64, 65, 66, 67, 68, 69, 70, 71, 72, 73, 74, 75, 76, 77, 78, 79, 80, 81, 82, 83, 84, 85, 86, 87, 88, 89, 90] (by decide +kernel) (by decide +kernel)
set_option maxRecDepth 20000 in
theorem gX10_newFloor_X10_keep : GoodIn wsX10_newFloor (wsV RX10 134 RX10 yX10_keep wsX10_keep) := goodIn_app (goodIn_of _ (by decide +kernel)) ggX10_newFloor_X10_keep
theorem dX10_newFloor_97 : decode cX10_newFloor 97 = .ok (.invokevirtual 134, 3) := by decide +kernel
theorem dX10_newFloor_100 : decode cX10_newFloor 100 = .ok (.aload_n 0, 1) := by decide +kernel
theorem dX10_newFloor_101 : decode cX10_newFloor 101 = .ok (.lload_n 1, 1) := by decide +kernel
theorem dX10_newFloor_102 : decode cX10_newFloor 102 = .ok (.putfield 81, 3) := by decide +kernel
theorem dX10_newFloor_105 : decode cX10_newFloor 105 = .ok (.aload_n 0, 1) := by decide +kernel
theorem dX10_newFloor_106 : decode cX10_newFloor 106 = .ok (.getfield 81, 3) := by decide +kernel
set_option maxRecDepth 20000 in
theorem ggX10_newFloor_X10_many : GoodIn wsX10_newFloor wsX10_many := goodIn_r _ [60, 41, 42, 9, 43] (by decide +kernel) (by decide +kernel)
set_option maxRecDepth 20000 in
theorem gX10_newFloor_X10_many : GoodIn wsX10_newFloor (va_wsS RX10 137 yX10_many wsX10_many) := goodIn_app (goodIn_of _ (by decide +kernel)) ggX10_newFloor_X10_many
theorem dX10_newFloor_109 : decode cX10_newFloor 109 = .ok (.invokestatic 137, 3) := by decide +kernel
theorem dX10_newFloor_112 : decode cX10_newFloor 112 = .ok (.ireturn, 1) := by decide +kernel
theorem dX10_newFloor_57 : decode cX10_newFloor 57 = .ok (.aload_n 0, 1) := by decide +kernel
theorem dX10_newFloor_58 : decode cX10_newFloor 58 = .ok (.iload_n 3, 1) := by decide +kernel
set_option maxRecDepth 20000 in
theorem ggX10_newFloor_X10_kindOf : GoodIn wsX10_newFloor wsX10_kindOf := goodIn_r _ [28, 11, 61, 62, 63, 64, 65, 66, 67, 68, 69, 70, 71, 72, 73, 74, 75, 76, 77, 78, 79, 80, 81, 82, 83, 84, 85, 86, 87, 88, 89, 90] (by decide +kernel) (by decide +kernel)
set_option maxRecDepth 20000 in
theorem gX10_newFloor_X10_kindOf : GoodIn wsX10_newFloor (wsV RX10 103 RX10 yX10_kindOf wsX10_kindOf) := goodIn_app (goodIn_of _ (by decide +kernel)) ggX10_newFloor_X10_kindOf
theorem dX10_newFloor_59 : decode cX10_newFloor 59 = .ok (.invokevirtual 103, 3) := by decide +kernel
theorem dX10_newFloor_62 : decode cX10_newFloor 62 = .ok (.iconst 3, 1) := by decide +kernel
theorem dX10_newFloor_63 : decode cX10_newFloor 63 = .ok (.if_icmp .ne 27, 3) := by decide +kernel
theorem dX10_newFloor_90 : decode cX10_newFloor 90 = .ok (.iinc 3 1, 3) := by decide +kernel
theorem dX10_newFloor_93 : decode cX10_newFloor 93 = .ok (.goto (-44), 3) := by decide +kernel
theorem dX10_newFloor_66 : decode cX10_newFloor 66 = .ok (.lload_n 1, 1) := by decide +kernel
theorem dX10_newFloor_67 : decode cX10_newFloor 67 = .ok (.aload_n 0, 1) := by decide +kernel
theorem dX10_newFloor_68 : decode cX10_newFloor 68 = .ok (.iload_n 3, 1) := by decide +kernel
set_option maxRecDepth 20000 in
theorem ggX10_newFloor_X10_fieldOf : GoodIn wsX10_newFloor wsX10_fieldOf := goodIn_r _ [10, 11, 61, 62, 63, 64, 65, 66, 67, 68, 69, 70, 71, 72, 73, 74, 75, 76, 77, 78, 79, 80, 81, 82, 83, 84, 85, 86, 87, 88, 89, 90] (by decide +kernel) (by decide +kernel)
set_option maxRecDepth 20000 in
theorem gX10_newFloor_X10_fieldOf : GoodIn wsX10_newFloor (wsV RX10 115 RX10 yX10_fieldOf wsX10_fieldOf) := goodIn_app (goodIn_of _ (by decide +kernel)) ggX10_newFloor_X10_fieldOf
theorem dX10_newFloor_69 : decode cX10_newFloor 69 = .ok (.invokevirtual 115, 3) := by decide +kernel
theorem dX10_newFloor_72 : decode cX10_newFloor 72 = .ok (.aload_n 0, 1) := by decide +kernel
theorem dX10_newFloor_73 : decode cX10_newFloor 73 = .ok (.iload_n 3, 1) := by decide +kernel
set_option maxRecDepth 20000 in
theorem ggX10_newFloor_X10_isAcross : GoodIn wsX10_newFloor wsX10_isAcross := goodIn_r _ [15, 11, 61, 62, 63, 64, 65, 66, 67, 68, 69, 70, 71, 72, 73, 74, 75, 76, 77, 78, 79, 80, 81, 82, 83, 84, 85, 86, 87, 88, 89, 90] (by decide +kernel) (by decide +kernel)
set_option maxRecDepth 20000 in
theorem gX10_newFloor_X10_isAcross : GoodIn wsX10_newFloor (wsV RX10 118 RX10 yX10_isAcross wsX10_isAcross) := goodIn_app (goodIn_of _ (by decide +kernel)) ggX10_newFloor_X10_isAcross
theorem dX10_newFloor_74 : decode cX10_newFloor 74 = .ok (.invokevirtual 118, 3) := by decide +kernel
set_option maxRecDepth 20000 in
theorem ggX10_newFloor_X10_isAtEdge : GoodIn wsX10_newFloor wsX10_isAtEdge := goodIn_r _ [31, 32, 33, 9, 34, 35, 36, 37, 38, 39, 40, 41, 42, 43] (by decide +kernel) (by decide +kernel)
set_option maxRecDepth 20000 in
theorem gX10_newFloor_X10_isAtEdge : GoodIn wsX10_newFloor (va_wsS RX10 129 yX10_isAtEdge wsX10_isAtEdge) := goodIn_app (goodIn_of _ (by decide +kernel)) ggX10_newFloor_X10_isAtEdge
theorem dX10_newFloor_77 : decode cX10_newFloor 77 = .ok (.invokestatic 129, 3) := by decide +kernel
theorem dX10_newFloor_80 : decode cX10_newFloor 80 = .ok (.ifCond .ne 10, 3) := by decide +kernel
theorem dX10_newFloor_83 : decode cX10_newFloor 83 = .ok (.aload_n 0, 1) := by decide +kernel
theorem dX10_newFloor_84 : decode cX10_newFloor 84 = .ok (.ldc 133, 2) := by decide +kernel
set_option maxRecDepth 20000 in
theorem ggX10_newFloor_X10_finding : GoodIn wsX10_newFloor wsX10_finding := goodIn_r _ [23, 24, 61, 62, 63, 64, 65, 66, 67, 68, 69, 70, 71, 72, 73, 74, 75, 76, 77, 78, 79, 80, 81, 82, 83, 84, 85, 86, 87, 88, 89, 90] (by decide +kernel) (by decide +kernel)
set_option maxRecDepth 20000 in
theorem gX10_newFloor_X10_finding : GoodIn wsX10_newFloor (wsV RX10 99 RX10 yX10_finding wsX10_finding) := goodIn_app (goodIn_of _ (by decide +kernel)) ggX10_newFloor_X10_finding
theorem dX10_newFloor_86 : decode cX10_newFloor 86 = .ok (.invokevirtual 99, 3) := by decide +kernel
theorem dX10_newFloor_89 : decode cX10_newFloor 89 = .ok (.ireturn, 1) := by decide +kernel
theorem dX10_newFloor_2 : decode cX10_newFloor 2 = .ok (.iload_n 3, 1) := by decide +kernel
theorem dX10_newFloor_3 : decode cX10_newFloor 3 = .ok (.aload_n 0, 1) := by decide +kernel
theorem dX10_newFloor_4 : decode cX10_newFloor 4 = .ok (.getfield 85, 3) := by decide +kernel
theorem dX10_newFloor_7 : decode cX10_newFloor 7 = .ok (.if_icmp .ge 40, 3) := by decide +kernel
theorem dX10_newFloor_47 : decode cX10_newFloor 47 = .ok (.iconst 0, 1) := by decide +kernel
theorem dX10_newFloor_48 : decode cX10_newFloor 48 = .ok (.istore_n 3, 1) := by decide +kernel
theorem dX10_newFloor_10 : decode cX10_newFloor 10 = .ok (.aload_n 0, 1) := by decide +kernel
theorem dX10_newFloor_11 : decode cX10_newFloor 11 = .ok (.iload_n 3, 1) := by decide +kernel
theorem dX10_newFloor_12 : decode cX10_newFloor 12 = .ok (.invokevirtual 115, 3) := by decide +kernel
theorem dX10_newFloor_15 : decode cX10_newFloor 15 = .ok (.aload_n 0, 1) := by decide +kernel
theorem dX10_newFloor_16 : decode cX10_newFloor 16 = .ok (.iload_n 3, 1) := by decide +kernel
theorem dX10_newFloor_17 : decode cX10_newFloor 17 = .ok (.invokevirtual 118, 3) := by decide +kernel
set_option maxRecDepth 20000 in
theorem ggX10_newFloor_X10_place : GoodIn wsX10_newFloor wsX10_place := goodIn_r _ [18, 19] (by decide +kernel) (by decide +kernel)
set_option maxRecDepth 20000 in
theorem gX10_newFloor_X10_place : GoodIn wsX10_newFloor (va_wsS RX10 122 yX10_place wsX10_place) := goodIn_app (goodIn_of _ (by decide +kernel)) ggX10_newFloor_X10_place
theorem dX10_newFloor_20 : decode cX10_newFloor 20 = .ok (.invokestatic 122, 3) := by decide +kernel
theorem dX10_newFloor_23 : decode cX10_newFloor 23 = .ok (.lload_n 1, 1) := by decide +kernel
theorem dX10_newFloor_24 : decode cX10_newFloor 24 = .ok (.ldc2_w 126, 3) := by decide +kernel
theorem dX10_newFloor_27 : decode cX10_newFloor 27 = .ok (.lxor, 1) := by decide +kernel
theorem dX10_newFloor_28 : decode cX10_newFloor 28 = .ok (.land, 1) := by decide +kernel
theorem dX10_newFloor_29 : decode cX10_newFloor 29 = .ok (.lconst 0, 1) := by decide +kernel
theorem dX10_newFloor_30 : decode cX10_newFloor 30 = .ok (.lcmp, 1) := by decide +kernel
theorem dX10_newFloor_31 : decode cX10_newFloor 31 = .ok (.ifCond .eq 10, 3) := by decide +kernel
theorem dX10_newFloor_41 : decode cX10_newFloor 41 = .ok (.iinc 3 1, 3) := by decide +kernel
theorem dX10_newFloor_44 : decode cX10_newFloor 44 = .ok (.goto (-42), 3) := by decide +kernel
theorem dX10_newFloor_34 : decode cX10_newFloor 34 = .ok (.aload_n 0, 1) := by decide +kernel
theorem dX10_newFloor_35 : decode cX10_newFloor 35 = .ok (.ldc 128, 2) := by decide +kernel
theorem dX10_newFloor_37 : decode cX10_newFloor 37 = .ok (.invokevirtual 99, 3) := by decide +kernel
theorem dX10_newFloor_40 : decode cX10_newFloor 40 = .ok (.ireturn, 1) := by decide +kernel
theorem dX10_newFloor_0 : decode cX10_newFloor 0 = .ok (.iconst 0, 1) := by decide +kernel
theorem dX10_newFloor_1 : decode cX10_newFloor 1 = .ok (.istore_n 3, 1) := by decide +kernel
set_option maxRecDepth 20000 in
theorem ihX10_newFloor_10 : ∀ w ∈ u_ws RX10 TX10 30, w ∈ wsX10_newFloor := by decide +kernel
set_option maxHeartbeats 4000000 in
set_option maxRecDepth 100000 in
theorem t_X10_newFloor (l : Launch) (D : va_G) (cy : Nat → ClassId) (a : Nat → Nat) (sz : Nat) (J : Nat → Int64) (I : Nat → Int32) (R : Nat → Nat → Int32) (RJ : Nat → Nat → Int64) (x0 : Int64) (hM : MI I R) : Met l yX10_newFloor wsX10_newFloor ({ frames := 4, cells := 0, slots := 0, locals := 92 }) (va_Pc [.ref (a 0), .long x0] (PW D cy sz (MW cy a J I R RJ))) (va_Qi (fun r (u : MS) => ∃ (w0 : Int64), ∃ (w1 : Int32), ∃ (w2 : Int32), ∃ (w3 : Int32), ∃ (w4 : Nat → Int32), ∃ (w5 : Nat → Int32), ∃ (w6 : Nat → Int32), ∃ (w7 : Nat → Int64), ∃ (w8 : Nat → Int64), ∃ (w9 : Nat → Int64), ((isB w1) ∧ (vp_in w2 21) ∧ (∀ i, i < 20 → vp_in (w4 i) 21) ∧ (∀ i, i < 20 → isB (w6 i))) ∧ u = ((va_up J 0 w0), (va_up (va_up (va_up I 3 w1) 12 w2) 13 w3), (va_up (va_up (va_up R 3 w4) 4 w5) 5 w6), (va_up (va_up (va_up RJ 2 w7) 6 w8) 7 w9))) (BW D (va_A (MW cy a J I R RJ) sz) (MWu cy a)) (va_A (MW cy a J I R RJ) sz)) 0 0 (va_A (MW cy a J I R RJ) sz) := by
  refine Met.ofW (cc := cX10_newFloor) (maxL := 4) (ret := (some .int)) (by decide) rfl ?_
  intro p e s m args below meth c s₁ B hml hv
  obtain ⟨rfl, rfl, hP, hK, hN, hD0⟩ := hv
  have hx := B.exec
  have hb := B.bytes
  have hr := B.returns
  have hts := atoms_spec (ws := wsX10_newFloor) B.pre
  have hown : s.vm.findClass RX10 = some m.cls := findClass_of_methodNamed B.named
  have hlocks := B.notSynchronized
  have hw0 := hts (.fieldLink RX10 85 "ParquetLayerModel" "stones" "I") (by decide +kernel)
  have hw1 := hts (.fieldLink RX10 81 "ParquetLayerModel" "floor" "J") (by decide +kernel)
  have hw2 := hts (.constant RX10 133 (-100004)) (by decide +kernel)
  have hw3 := hts (.constantLong RX10 126 (-1)) (by decide +kernel)
  have hw4 := hts (.constant RX10 128 (-100007)) (by decide +kernel)
  have hi10 := ihX10_newFloor_10
  have hD := hD0.self (sz := s.heap.size)
  generalize hAe : va_A (MW cy a J I R RJ) s.heap.size = A at hD ⊢
  have hA : ∀ q : Nat, s.heap.size ≤ q → A q := fun q h => by rw [← hAe]; exact Or.inr h
  have hS : va_S A s.heap s.heap [] := va_S.rf
  have hl := lv_entry ([.ref (a 0), .long x0]) (n := 4) (Nat.le_of_ble_eq_true rfl)
  rw [lg_entry_eq]
  generalize (lg_sl ([.ref (a 0), .long x0]) ++ List.replicate (4 - (lg_sl ([.ref (a 0), .long x0])).length) Slot.unset).toArray = ls at hl ⊢
  have hl : lv_has ls 4 [(0, .ref (a 0)), (1, .long x0)] := hl
  obtain ⟨ns, hns, hI1⟩ := vp_in_of hM.1 (by decide)
  have hP : va_P D vwCl (MW cy a (va_up J 0 (J 0)) (va_up (va_up (va_up I 3 (I 3)) 12 (I 12)) 13 (I 13)) (va_up (va_up (va_up R 3 (R 3)) 4 (R 4)) 5 (R 5)) (va_up (va_up (va_up RJ 2 (RJ 2)) 6 (RJ 6)) 7 (RJ 7))) s.heap := hP
  have hD : va_D A (MW cy a (va_up J 0 (J 0)) (va_up (va_up (va_up I 3 (I 3)) 12 (I 12)) 13 (I 13)) (va_up (va_up (va_up R 3 (R 3)) 4 (R 4)) 5 (R 5)) (va_up (va_up (va_up RJ 2 (RJ 2)) 6 (RJ 6)) 7 (RJ 7))) := hD
  have lp49 : ∀ (n49 : Nat), ∀ (j : Nat) (m0_49 : Int64) (m1_49 : Int32) (m2_49 : Int32) (m3_49 : Int32) (m4_49 : Nat → Int32) (m5_49 : Nat → Int32) (m6_49 : Nat → Int32) (m7_49 : Nat → Int64) (m8_49 : Nat → Int64) (m9_49 : Nat → Int64), (j ≤ ns) → (isB m1_49) → (vp_in m2_49 21) → (∀ i, i < 20 → vp_in (m4_49 i) 21) → (∀ i, i < 20 → isB (m6_49 i)) → (ns - j) < n49 → ∀ (H : Heap) (locs : List Loc), va_P D vwCl (MW cy a (va_up J 0 m0_49) (va_up (va_up (va_up I 3 m1_49) 12 m2_49) 13 m3_49) (va_up (va_up (va_up R 3 m4_49) 4 m5_49) 5 m6_49) (va_up (va_up (va_up RJ 2 m7_49) 6 m8_49) 7 m9_49)) H → va_D A (MW cy a (va_up J 0 m0_49) (va_up (va_up (va_up I 3 m1_49) 12 m2_49) 13 m3_49) (va_up (va_up (va_up R 3 m4_49) 4 m5_49) 5 m6_49) (va_up (va_up (va_up RJ 2 m7_49) 6 m8_49) 7 m9_49)) → va_S A s.heap H locs → ∀ (ls : Array Slot), lv_has ls 4 [(0, .ref (a 0)), (1, .long x0), (3, .int (nI j))] → W p l e (headSpec wsX10_newFloor ({ frames := 4, cells := 0, slots := 0, locals := 92 })).room s m ([.ref (a 0), .long x0] : List Value).toArray below meth c H locs 0 0 (MQ below (va_Qi (fun r (u : MS) => ∃ (w0 : Int64), ∃ (w1 : Int32), ∃ (w2 : Int32), ∃ (w3 : Int32), ∃ (w4 : Nat → Int32), ∃ (w5 : Nat → Int32), ∃ (w6 : Nat → Int32), ∃ (w7 : Nat → Int64), ∃ (w8 : Nat → Int64), ∃ (w9 : Nat → Int64), ((isB w1) ∧ (vp_in w2 21) ∧ (∀ i, i < 20 → vp_in (w4 i) 21) ∧ (∀ i, i < 20 → isB (w6 i))) ∧ u = ((va_up J 0 w0), (va_up (va_up (va_up I 3 w1) 12 w2) 13 w3), (va_up (va_up (va_up R 3 w4) 4 w5) 5 w6), (va_up (va_up (va_up RJ 2 w7) 6 w8) 7 w9))) (BW D A (MWu cy a)) A) ([.ref (a 0), .long x0] : List Value).toArray s 0 0 A) (F0 m 49 ls []) := by
    intro n49
    induction n49 with
    | zero => intro j m0_49 m1_49 m2_49 m3_49 m4_49 m5_49 m6_49 m7_49 m8_49 m9_49 hj hm_m1_49 hm_m2_49 hm_m4_49 hm_m6_49 hn; exact absurd hn (Nat.not_lt_zero _)
    | succ n49 ih49 =>
      intro j m0_49 m1_49 m2_49 m3_49 m4_49 m5_49 m6_49 m7_49 m8_49 m9_49 hj hm_m1_49 hm_m2_49 hm_m4_49 hm_m6_49 hn49 H locs hP hD hS ls hl
      refine lv_iload_n hx hb dX10_newFloor_49 rfl (lv_at hl 2 rfl) ?_
      refine lv_aload_n hx hb dX10_newFloor_50 rfl (lv_at hl 0 rfl) ?_
      refine va_get (D := D) (ci := 9) (v := .int (I 1)) (C := RX10) (T := TX10) (N := 30) hx hb hts hi10 hown hK hP 0 rfl rfl 1 (by decide) hw0 (fun _ h9 => h9) rfl dX10_newFloor_51 ?_
      refine lv_icmp_ge (tgt := 96) hx hb dX10_newFloor_54 (by decide) (fun c_1 => ?_) (fun c_1 => ?_)
      · refine lv_aload_n hx hb dX10_newFloor_96 rfl (lv_at hl 0 rfl) ?_
        refine kM_v (As := []) (rest := []) (q0 := 0) ⟨hx, hb, hml, hown, hts⟩ (t_X10_keep l D cy a _ (va_up J 0 m0_49) (va_up (va_up (va_up I 3 m1_49) 12 m2_49) 13 m3_49) (va_up (va_up (va_up R 3 m4_49) 4 m5_49) 5 m6_49) (va_up (va_up (va_up RJ 2 m7_49) 6 m8_49) 7 m9_49)   ⟨hM.1, hm_m1_49, hm_m2_49, hm_m4_49, hm_m6_49, hM.2.2.2.2.2⟩) (cwV 0 hts gX10_newFloor_X10_keep rfl rfl rfl (by decide +kernel) ⟨Nat.le_of_ble_eq_true rfl, Nat.le_of_ble_eq_true rfl⟩) hK hN hP hD hS hA rfl rfl rfl hl.1 rfl (Nat.le_of_ble_eq_true rfl) dX10_newFloor_97 ⟨Nat.le_of_ble_eq_true rfl, Nat.le_of_ble_eq_true rfl⟩ (fun u H locs hw hP hD hS => ?_)
        obtain ⟨w_3, w_4, w_5, w_6, w_7, w_8, w_9, w_10, ⟨hi_11, hi_12, hi_13, hi_14⟩, rfl⟩ := hw
        have hP : va_P D vwCl (MW cy a (va_up J 0 m0_49) (va_up (va_up (va_up I 3 w_3) 12 w_4) 13 m3_49) (va_up (va_up (va_up R 3 w_5) 4 w_6) 5 w_7) (va_up (va_up (va_up RJ 2 w_8) 6 w_9) 7 w_10)) H := hP
        have hD : va_D A (MW cy a (va_up J 0 m0_49) (va_up (va_up (va_up I 3 w_3) 12 w_4) 13 m3_49) (va_up (va_up (va_up R 3 w_5) 4 w_6) 5 w_7) (va_up (va_up (va_up RJ 2 w_8) 6 w_9) 7 w_10)) := hD
        refine lv_aload_n hx hb dX10_newFloor_100 rfl (lv_at hl 0 rfl) ?_
        refine lv_lload_n hx hb dX10_newFloor_101 rfl (lv_at hl 1 rfl) ?_
        refine va_put (D := D) (ci := 9) (v := .long x0) (ty := .long) (C := RX10) (T := TX10) (N := 30) hx hb hts hi10 tyX10 tyX10_ok nmX10 hown hK hP hD hS 0 rfl rfl 0 (by decide) hw1 (fun _ h9 => h9) rfl (by decide +kernel) rfl rfl (Nat.le_of_ble_eq_true rfl) dX10_newFloor_102 (fun H locs hP hD hS => ?_)
        have hP : va_P D vwCl (MW cy a (va_up J 0 x0) (va_up (va_up (va_up I 3 w_3) 12 w_4) 13 m3_49) (va_up (va_up (va_up R 3 w_5) 4 w_6) 5 w_7) (va_up (va_up (va_up RJ 2 w_8) 6 w_9) 7 w_10)) H := hP
        have hD : va_D A (MW cy a (va_up J 0 x0) (va_up (va_up (va_up I 3 w_3) 12 w_4) 13 m3_49) (va_up (va_up (va_up R 3 w_5) 4 w_6) 5 w_7) (va_up (va_up (va_up RJ 2 w_8) 6 w_9) 7 w_10)) := hD
        refine lv_aload_n hx hb dX10_newFloor_105 rfl (lv_at hl 0 rfl) ?_
        refine va_get (D := D) (ci := 9) (v := .long x0) (C := RX10) (T := TX10) (N := 30) hx hb hts hi10 hown hK hP 0 rfl rfl 0 (by decide) hw1 (fun _ h9 => h9) rfl dX10_newFloor_106 ?_
        refine kS_i (As := [.long x0]) (rest := []) ⟨hx, hb, hml, hown, hts⟩ (c_X10_many l x0) (va_cwS 1 hts gX10_newFloor_X10_many rfl rfl rfl (by decide +kernel) ⟨Nat.le_of_ble_eq_true rfl, Nat.le_of_ble_eq_true rfl⟩) rfl hl.1 rfl (Nat.le_of_ble_eq_true rfl) dX10_newFloor_109 ⟨Nat.le_of_ble_eq_true rfl, Nat.le_of_ble_eq_true rfl⟩ ?_
        exact wret_i hx hb hr hlocks ((va_up J 0 x0), (va_up (va_up (va_up I 3 w_3) 12 w_4) 13 m3_49), (va_up (va_up (va_up R 3 w_5) 4 w_6) 5 w_7), (va_up (va_up (va_up RJ 2 w_8) 6 w_9) 7 w_10)) ⟨x0, w_3, w_4, m3_49, w_5, w_6, w_7, w_8, w_9, w_10, ⟨hi_11, hi_12, hi_13, hi_14⟩, rfl⟩ hP hD hS dX10_newFloor_112
      · have hlt := ctr_lt (N := ns) (by omega) hj (by rw [← hI1]; exact c_1)
        refine lv_aload_n hx hb dX10_newFloor_57 rfl (lv_at hl 0 rfl) ?_
        refine lv_iload_n hx hb dX10_newFloor_58 rfl (lv_at hl 2 rfl) ?_
        refine kR_i (As := [.int (nI j)]) (rest := []) (q0 := 0) ⟨hx, hb, hml, hown, hts⟩ (c_X10_kindOf l D cy a _ (va_up J 0 m0_49) (va_up (va_up (va_up I 3 m1_49) 12 m2_49) 13 m3_49) (va_up (va_up (va_up R 3 m4_49) 4 m5_49) 5 m6_49) (va_up (va_up (va_up RJ 2 m7_49) 6 m8_49) 7 m9_49) (nI j) (vp_in_nI (by omega) (by decide))) (cwV 1 hts gX10_newFloor_X10_kindOf rfl rfl rfl (by decide +kernel) ⟨Nat.le_of_ble_eq_true rfl, Nat.le_of_ble_eq_true rfl⟩) hK hN hP hD rfl rfl rfl hl.1 rfl (Nat.le_of_ble_eq_true rfl) dX10_newFloor_59 ⟨Nat.le_of_ble_eq_true rfl, Nat.le_of_ble_eq_true rfl⟩ ?_
        refine lv_iconst (v := 3) hx hb dX10_newFloor_62 (by decide) ?_
        refine lv_icmp_ne (tgt := 90) hx hb dX10_newFloor_63 (by decide) (fun c_15 => ?_) (fun c_15 => ?_)
        · refine lv_iinc (v := nI (j + 1)) (lv' := [(3, .int (nI (j + 1))), (0, .ref (a 0)), (1, .long x0)]) hx hb dX10_newFloor_90 hl (k := 2) rfl (nI_1 _) (by decide) rfl (fun ls hl => ?_)
          refine lv_goto (tgt := 49) hx hb dX10_newFloor_93 (by decide) ?_
          exact ih49 (j + 1) m0_49 m1_49 m2_49 m3_49 m4_49 m5_49 m6_49 m7_49 m8_49 m9_49 (by omega) hm_m1_49 hm_m2_49 hm_m4_49 hm_m6_49 (by omega) _ _ hP hD hS ls (lv_sub hl [1, 2, 0] rfl)
        · refine lv_lload_n hx hb dX10_newFloor_66 rfl (lv_at hl 1 rfl) ?_
          refine lv_aload_n hx hb dX10_newFloor_67 rfl (lv_at hl 0 rfl) ?_
          refine lv_iload_n hx hb dX10_newFloor_68 rfl (lv_at hl 2 rfl) ?_
          refine kR_i (As := [.int (nI j)]) (rest := [.long x0]) (q0 := 0) ⟨hx, hb, hml, hown, hts⟩ (c_X10_fieldOf l D cy a _ (va_up J 0 m0_49) (va_up (va_up (va_up I 3 m1_49) 12 m2_49) 13 m3_49) (va_up (va_up (va_up R 3 m4_49) 4 m5_49) 5 m6_49) (va_up (va_up (va_up RJ 2 m7_49) 6 m8_49) 7 m9_49) (nI j) (vp_in_nI (by omega) (by decide))) (cwV 1 hts gX10_newFloor_X10_fieldOf rfl rfl rfl (by decide +kernel) ⟨Nat.le_of_ble_eq_true rfl, Nat.le_of_ble_eq_true rfl⟩) hK hN hP hD rfl rfl rfl hl.1 rfl (Nat.le_of_ble_eq_true rfl) dX10_newFloor_69 ⟨Nat.le_of_ble_eq_true rfl, Nat.le_of_ble_eq_true rfl⟩ ?_
          refine lv_aload_n hx hb dX10_newFloor_72 rfl (lv_at hl 0 rfl) ?_
          refine lv_iload_n hx hb dX10_newFloor_73 rfl (lv_at hl 2 rfl) ?_
          refine kR_i (As := [.int (nI j)]) (rest := [.int ((((R 1) (nI j).toNatClampNeg) >>> ((2 : Int32) &&& 31)) &&& 63), .long x0]) (q0 := 0) ⟨hx, hb, hml, hown, hts⟩ (c_X10_isAcross l D cy a _ (va_up J 0 m0_49) (va_up (va_up (va_up I 3 m1_49) 12 m2_49) 13 m3_49) (va_up (va_up (va_up R 3 m4_49) 4 m5_49) 5 m6_49) (va_up (va_up (va_up RJ 2 m7_49) 6 m8_49) 7 m9_49) (nI j) (vp_in_nI (by omega) (by decide))) (cwV 1 hts gX10_newFloor_X10_isAcross rfl rfl rfl (by decide +kernel) ⟨Nat.le_of_ble_eq_true rfl, Nat.le_of_ble_eq_true rfl⟩) hK hN hP hD rfl rfl rfl hl.1 rfl (Nat.le_of_ble_eq_true rfl) dX10_newFloor_74 ⟨Nat.le_of_ble_eq_true rfl, Nat.le_of_ble_eq_true rfl⟩ ?_
          refine kS_i (As := [.long x0, .int ((((R 1) (nI j).toNatClampNeg) >>> ((2 : Int32) &&& 31)) &&& 63), .int (bI (m_acr ((R 1) (nI j).toNatClampNeg)))]) (rest := []) ⟨hx, hb, hml, hown, hts⟩ (c_X10_isAtEdge l x0 ((((R 1) (nI j).toNatClampNeg) >>> ((2 : Int32) &&& 31)) &&& 63) (m_acr ((R 1) (nI j).toNatClampNeg))) (va_cwS 3 hts gX10_newFloor_X10_isAtEdge rfl rfl rfl (by decide +kernel) ⟨Nat.le_of_ble_eq_true rfl, Nat.le_of_ble_eq_true rfl⟩) rfl hl.1 rfl (Nat.le_of_ble_eq_true rfl) dX10_newFloor_77 ⟨Nat.le_of_ble_eq_true rfl, Nat.le_of_ble_eq_true rfl⟩ ?_
          refine lv_if_ne (tgt := 90) hx hb dX10_newFloor_80 (by decide) (fun c_16 => ?_) (fun c_16 => ?_)
          · replace c_16 := bI_t c_16
            refine lv_iinc (v := nI (j + 1)) (lv' := [(3, .int (nI (j + 1))), (0, .ref (a 0)), (1, .long x0)]) hx hb dX10_newFloor_90 hl (k := 2) rfl (nI_1 _) (by decide) rfl (fun ls hl => ?_)
            refine lv_goto (tgt := 49) hx hb dX10_newFloor_93 (by decide) ?_
            exact ih49 (j + 1) m0_49 m1_49 m2_49 m3_49 m4_49 m5_49 m6_49 m7_49 m8_49 m9_49 (by omega) hm_m1_49 hm_m2_49 hm_m4_49 hm_m6_49 (by omega) _ _ hP hD hS ls (lv_sub hl [1, 2, 0] rfl)
          · replace c_16 := bI_f c_16
            refine lv_aload_n hx hb dX10_newFloor_83 rfl (lv_at hl 0 rfl) ?_
            refine lv_ldc (v := (-100004)) hx hb hown hw2 dX10_newFloor_84 ?_
            refine kM_i (As := [.int (-100004)]) (rest := []) (q0 := 0) ⟨hx, hb, hml, hown, hts⟩ (c_X10_finding l D cy a _ (va_up J 0 m0_49) (va_up (va_up (va_up I 3 m1_49) 12 m2_49) 13 m3_49) (va_up (va_up (va_up R 3 m4_49) 4 m5_49) 5 m6_49) (va_up (va_up (va_up RJ 2 m7_49) 6 m8_49) 7 m9_49) (-100004) ) (cwV 1 hts gX10_newFloor_X10_finding rfl rfl rfl (by decide +kernel) ⟨Nat.le_of_ble_eq_true rfl, Nat.le_of_ble_eq_true rfl⟩) hK hN hP hD hS hA rfl rfl rfl hl.1 rfl (Nat.le_of_ble_eq_true rfl) dX10_newFloor_86 ⟨Nat.le_of_ble_eq_true rfl, Nat.le_of_ble_eq_true rfl⟩ (fun r_17 u H locs hw hP hD hS => ?_)
            obtain ⟨rfl, rfl⟩ := hw
            have hP : va_P D vwCl (MW cy a (va_up J 0 m0_49) (va_up (va_up (va_up I 3 m1_49) 12 m2_49) 13 (m3_49 + 1)) (va_up (va_up (va_up R 3 m4_49) 4 m5_49) 5 m6_49) (va_up (va_up (va_up RJ 2 m7_49) 6 m8_49) 7 m9_49)) H := hP
            have hD : va_D A (MW cy a (va_up J 0 m0_49) (va_up (va_up (va_up I 3 m1_49) 12 m2_49) 13 (m3_49 + 1)) (va_up (va_up (va_up R 3 m4_49) 4 m5_49) 5 m6_49) (va_up (va_up (va_up RJ 2 m7_49) 6 m8_49) 7 m9_49)) := hD
            exact wret_i hx hb hr hlocks ((va_up J 0 m0_49), (va_up (va_up (va_up I 3 m1_49) 12 m2_49) 13 (m3_49 + 1)), (va_up (va_up (va_up R 3 m4_49) 4 m5_49) 5 m6_49), (va_up (va_up (va_up RJ 2 m7_49) 6 m8_49) 7 m9_49)) ⟨m0_49, m1_49, m2_49, (m3_49 + 1), m4_49, m5_49, m6_49, m7_49, m8_49, m9_49, ⟨hm_m1_49, hm_m2_49, hm_m4_49, hm_m6_49⟩, rfl⟩ hP hD hS dX10_newFloor_89
  have lp2 : ∀ (n2 : Nat), ∀ (i : Nat) (m0_2 : Int64) (m1_2 : Int32) (m2_2 : Int32) (m3_2 : Int32) (m4_2 : Nat → Int32) (m5_2 : Nat → Int32) (m6_2 : Nat → Int32) (m7_2 : Nat → Int64) (m8_2 : Nat → Int64) (m9_2 : Nat → Int64), (i ≤ ns) → (isB m1_2) → (vp_in m2_2 21) → (∀ i, i < 20 → vp_in (m4_2 i) 21) → (∀ i, i < 20 → isB (m6_2 i)) → (ns - i) < n2 → ∀ (H : Heap) (locs : List Loc), va_P D vwCl (MW cy a (va_up J 0 m0_2) (va_up (va_up (va_up I 3 m1_2) 12 m2_2) 13 m3_2) (va_up (va_up (va_up R 3 m4_2) 4 m5_2) 5 m6_2) (va_up (va_up (va_up RJ 2 m7_2) 6 m8_2) 7 m9_2)) H → va_D A (MW cy a (va_up J 0 m0_2) (va_up (va_up (va_up I 3 m1_2) 12 m2_2) 13 m3_2) (va_up (va_up (va_up R 3 m4_2) 4 m5_2) 5 m6_2) (va_up (va_up (va_up RJ 2 m7_2) 6 m8_2) 7 m9_2)) → va_S A s.heap H locs → ∀ (ls : Array Slot), lv_has ls 4 [(0, .ref (a 0)), (1, .long x0), (3, .int (nI i))] → W p l e (headSpec wsX10_newFloor ({ frames := 4, cells := 0, slots := 0, locals := 92 })).room s m ([.ref (a 0), .long x0] : List Value).toArray below meth c H locs 0 0 (MQ below (va_Qi (fun r (u : MS) => ∃ (w0 : Int64), ∃ (w1 : Int32), ∃ (w2 : Int32), ∃ (w3 : Int32), ∃ (w4 : Nat → Int32), ∃ (w5 : Nat → Int32), ∃ (w6 : Nat → Int32), ∃ (w7 : Nat → Int64), ∃ (w8 : Nat → Int64), ∃ (w9 : Nat → Int64), ((isB w1) ∧ (vp_in w2 21) ∧ (∀ i, i < 20 → vp_in (w4 i) 21) ∧ (∀ i, i < 20 → isB (w6 i))) ∧ u = ((va_up J 0 w0), (va_up (va_up (va_up I 3 w1) 12 w2) 13 w3), (va_up (va_up (va_up R 3 w4) 4 w5) 5 w6), (va_up (va_up (va_up RJ 2 w7) 6 w8) 7 w9))) (BW D A (MWu cy a)) A) ([.ref (a 0), .long x0] : List Value).toArray s 0 0 A) (F0 m 2 ls []) := by
    intro n2
    induction n2 with
    | zero => intro i m0_2 m1_2 m2_2 m3_2 m4_2 m5_2 m6_2 m7_2 m8_2 m9_2 hi hm_m1_2 hm_m2_2 hm_m4_2 hm_m6_2 hn; exact absurd hn (Nat.not_lt_zero _)
    | succ n2 ih2 =>
      intro i m0_2 m1_2 m2_2 m3_2 m4_2 m5_2 m6_2 m7_2 m8_2 m9_2 hi hm_m1_2 hm_m2_2 hm_m4_2 hm_m6_2 hn2 H locs hP hD hS ls hl
      refine lv_iload_n hx hb dX10_newFloor_2 rfl (lv_at hl 2 rfl) ?_
      refine lv_aload_n hx hb dX10_newFloor_3 rfl (lv_at hl 0 rfl) ?_
      refine va_get (D := D) (ci := 9) (v := .int (I 1)) (C := RX10) (T := TX10) (N := 30) hx hb hts hi10 hown hK hP 0 rfl rfl 1 (by decide) hw0 (fun _ h9 => h9) rfl dX10_newFloor_4 ?_
      refine lv_icmp_ge (tgt := 47) hx hb dX10_newFloor_7 (by decide) (fun c_18 => ?_) (fun c_18 => ?_)
      · refine lv_iconst (v := 0) hx hb dX10_newFloor_47 (by decide) ?_
        refine lv_istore_n (lv' := [(3, .int 0), (0, .ref (a 0)), (1, .long x0)]) hx hb dX10_newFloor_48 rfl hl (by decide) rfl (fun ls hl => ?_)
        exact lp49 _ 0 m0_2 m1_2 m2_2 m3_2 m4_2 m5_2 m6_2 m7_2 m8_2 m9_2 (by omega) hm_m1_2 hm_m2_2 hm_m4_2 hm_m6_2 (Nat.lt_succ_self _) _ _ hP hD hS ls (lv_sub hl [1, 2, 0] rfl)
      · have hlt := ctr_lt (N := ns) (by omega) hi (by rw [← hI1]; exact c_18)
        refine lv_aload_n hx hb dX10_newFloor_10 rfl (lv_at hl 0 rfl) ?_
        refine lv_iload_n hx hb dX10_newFloor_11 rfl (lv_at hl 2 rfl) ?_
        refine kR_i (As := [.int (nI i)]) (rest := []) (q0 := 0) ⟨hx, hb, hml, hown, hts⟩ (c_X10_fieldOf l D cy a _ (va_up J 0 m0_2) (va_up (va_up (va_up I 3 m1_2) 12 m2_2) 13 m3_2) (va_up (va_up (va_up R 3 m4_2) 4 m5_2) 5 m6_2) (va_up (va_up (va_up RJ 2 m7_2) 6 m8_2) 7 m9_2) (nI i) (vp_in_nI (by omega) (by decide))) (cwV 1 hts gX10_newFloor_X10_fieldOf rfl rfl rfl (by decide +kernel) ⟨Nat.le_of_ble_eq_true rfl, Nat.le_of_ble_eq_true rfl⟩) hK hN hP hD rfl rfl rfl hl.1 rfl (Nat.le_of_ble_eq_true rfl) dX10_newFloor_12 ⟨Nat.le_of_ble_eq_true rfl, Nat.le_of_ble_eq_true rfl⟩ ?_
        refine lv_aload_n hx hb dX10_newFloor_15 rfl (lv_at hl 0 rfl) ?_
        refine lv_iload_n hx hb dX10_newFloor_16 rfl (lv_at hl 2 rfl) ?_
        refine kR_i (As := [.int (nI i)]) (rest := [.int ((((R 1) (nI i).toNatClampNeg) >>> ((2 : Int32) &&& 31)) &&& 63)]) (q0 := 0) ⟨hx, hb, hml, hown, hts⟩ (c_X10_isAcross l D cy a _ (va_up J 0 m0_2) (va_up (va_up (va_up I 3 m1_2) 12 m2_2) 13 m3_2) (va_up (va_up (va_up R 3 m4_2) 4 m5_2) 5 m6_2) (va_up (va_up (va_up RJ 2 m7_2) 6 m8_2) 7 m9_2) (nI i) (vp_in_nI (by omega) (by decide))) (cwV 1 hts gX10_newFloor_X10_isAcross rfl rfl rfl (by decide +kernel) ⟨Nat.le_of_ble_eq_true rfl, Nat.le_of_ble_eq_true rfl⟩) hK hN hP hD rfl rfl rfl hl.1 rfl (Nat.le_of_ble_eq_true rfl) dX10_newFloor_17 ⟨Nat.le_of_ble_eq_true rfl, Nat.le_of_ble_eq_true rfl⟩ ?_
        refine kS_l (As := [.int ((((R 1) (nI i).toNatClampNeg) >>> ((2 : Int32) &&& 31)) &&& 63), .int (bI (m_acr ((R 1) (nI i).toNatClampNeg)))]) (rest := []) ⟨hx, hb, hml, hown, hts⟩ (c_X10_place l ((((R 1) (nI i).toNatClampNeg) >>> ((2 : Int32) &&& 31)) &&& 63) (m_acr ((R 1) (nI i).toNatClampNeg))) (va_cwS 2 hts gX10_newFloor_X10_place rfl rfl rfl (by decide +kernel) ⟨Nat.le_of_ble_eq_true rfl, Nat.le_of_ble_eq_true rfl⟩) rfl hl.1 rfl (Nat.le_of_ble_eq_true rfl) dX10_newFloor_20 ⟨Nat.le_of_ble_eq_true rfl, Nat.le_of_ble_eq_true rfl⟩ ?_
        refine lv_lload_n hx hb dX10_newFloor_23 rfl (lv_at hl 1 rfl) ?_
        refine lv_ldc2 (v := (-1)) hx hb hown hw3 dX10_newFloor_24 ?_
        refine lv_lxor hx hb dX10_newFloor_27 ?_
        refine lv_land hx hb dX10_newFloor_28 ?_
        refine lv_lconst (v := 0) hx hb dX10_newFloor_29 (by decide) ?_
        refine W.lcmp hx hb dX10_newFloor_30 ?_
        refine lv_if_eq (tgt := 41) hx hb dX10_newFloor_31 (by decide) (fun c_19 => ?_) (fun c_19 => ?_)
        · replace c_19 := (lg_cmp_eq _ _).mp c_19
          refine lv_iinc (v := nI (i + 1)) (lv' := [(3, .int (nI (i + 1))), (0, .ref (a 0)), (1, .long x0)]) hx hb dX10_newFloor_41 hl (k := 2) rfl (nI_1 _) (by decide) rfl (fun ls hl => ?_)
          refine lv_goto (tgt := 2) hx hb dX10_newFloor_44 (by decide) ?_
          exact ih2 (i + 1) m0_2 m1_2 m2_2 m3_2 m4_2 m5_2 m6_2 m7_2 m8_2 m9_2 (by omega) hm_m1_2 hm_m2_2 hm_m4_2 hm_m6_2 (by omega) _ _ hP hD hS ls (lv_sub hl [1, 2, 0] rfl)
        · replace c_19 := fun z => c_19 ((lg_cmp_eq _ _).mpr z)
          refine lv_aload_n hx hb dX10_newFloor_34 rfl (lv_at hl 0 rfl) ?_
          refine lv_ldc (v := (-100007)) hx hb hown hw4 dX10_newFloor_35 ?_
          refine kM_i (As := [.int (-100007)]) (rest := []) (q0 := 0) ⟨hx, hb, hml, hown, hts⟩ (c_X10_finding l D cy a _ (va_up J 0 m0_2) (va_up (va_up (va_up I 3 m1_2) 12 m2_2) 13 m3_2) (va_up (va_up (va_up R 3 m4_2) 4 m5_2) 5 m6_2) (va_up (va_up (va_up RJ 2 m7_2) 6 m8_2) 7 m9_2) (-100007) ) (cwV 1 hts gX10_newFloor_X10_finding rfl rfl rfl (by decide +kernel) ⟨Nat.le_of_ble_eq_true rfl, Nat.le_of_ble_eq_true rfl⟩) hK hN hP hD hS hA rfl rfl rfl hl.1 rfl (Nat.le_of_ble_eq_true rfl) dX10_newFloor_37 ⟨Nat.le_of_ble_eq_true rfl, Nat.le_of_ble_eq_true rfl⟩ (fun r_20 u H locs hw hP hD hS => ?_)
          obtain ⟨rfl, rfl⟩ := hw
          have hP : va_P D vwCl (MW cy a (va_up J 0 m0_2) (va_up (va_up (va_up I 3 m1_2) 12 m2_2) 13 (m3_2 + 1)) (va_up (va_up (va_up R 3 m4_2) 4 m5_2) 5 m6_2) (va_up (va_up (va_up RJ 2 m7_2) 6 m8_2) 7 m9_2)) H := hP
          have hD : va_D A (MW cy a (va_up J 0 m0_2) (va_up (va_up (va_up I 3 m1_2) 12 m2_2) 13 (m3_2 + 1)) (va_up (va_up (va_up R 3 m4_2) 4 m5_2) 5 m6_2) (va_up (va_up (va_up RJ 2 m7_2) 6 m8_2) 7 m9_2)) := hD
          exact wret_i hx hb hr hlocks ((va_up J 0 m0_2), (va_up (va_up (va_up I 3 m1_2) 12 m2_2) 13 (m3_2 + 1)), (va_up (va_up (va_up R 3 m4_2) 4 m5_2) 5 m6_2), (va_up (va_up (va_up RJ 2 m7_2) 6 m8_2) 7 m9_2)) ⟨m0_2, m1_2, m2_2, (m3_2 + 1), m4_2, m5_2, m6_2, m7_2, m8_2, m9_2, ⟨hm_m1_2, hm_m2_2, hm_m4_2, hm_m6_2⟩, rfl⟩ hP hD hS dX10_newFloor_40
  refine lv_iconst (v := 0) hx hb dX10_newFloor_0 (by decide) ?_
  refine lv_istore_n (lv' := [(3, .int 0), (0, .ref (a 0)), (1, .long x0)]) hx hb dX10_newFloor_1 rfl hl (by decide) rfl (fun ls hl => ?_)
  exact lp2 _ 0 (J 0) (I 3) (I 12) (I 13) (R 3) (R 4) (R 5) (RJ 2) (RJ 6) (RJ 7) (by omega) hM.2.1 hM.2.2.1 hM.2.2.2.1 hM.2.2.2.2.1 (Nat.lt_succ_self _) _ _ hP hD hS ls (lv_sub hl [1, 2, 0] rfl)
theorem dX10_row_0 : decode cX10_row 0 = .ok (.iload_n 1, 1) := by decide +kernel
theorem dX10_row_1 : decode cX10_row 1 = .ok (.iconst 0, 1) := by decide +kernel
theorem dX10_row_2 : decode cX10_row 2 = .ok (.bipush 7, 2) := by decide +kernel
set_option maxRecDepth 20000 in
theorem ggX10_row_X10_within : GoodIn wsX10_row wsX10_within := goodIn_r _ [8] (by decide +kernel) (by decide +kernel)
set_option maxRecDepth 20000 in
theorem gX10_row_X10_within : GoodIn wsX10_row (va_wsS RX10 70 yX10_within wsX10_within) := goodIn_app (goodIn_of _ (by decide +kernel)) ggX10_row_X10_within
theorem dX10_row_4 : decode cX10_row 4 = .ok (.invokestatic 70, 3) := by decide +kernel
theorem dX10_row_7 : decode cX10_row 7 = .ok (.ifCond .eq 14, 3) := by decide +kernel
theorem dX10_row_21 : decode cX10_row 21 = .ok (.aload_n 0, 1) := by decide +kernel
theorem dX10_row_22 : decode cX10_row 22 = .ok (.ldc 141, 2) := by decide +kernel
set_option maxRecDepth 20000 in
theorem ggX10_row_X10_finding : GoodIn wsX10_row wsX10_finding := goodIn_r _ [12, 13, 67, 68, 69, 70, 71, 72, 73, 74, 75, 76, 77, 78, 79, 80, 81, 82, 83, 84, 85, 86, 87, 88, 89, 90, 91, 92, 93, 94, 95, 96] (by decide +kernel) (by decide +kernel)
set_option maxRecDepth 20000 in
theorem gX10_row_X10_finding : GoodIn wsX10_row (wsV RX10 99 RX10 yX10_finding wsX10_finding) := goodIn_app (goodIn_of _ (by decide +kernel)) ggX10_row_X10_finding
theorem dX10_row_24 : decode cX10_row 24 = .ok (.invokevirtual 99, 3) := by decide +kernel
theorem dX10_row_27 : decode cX10_row 27 = .ok (.ireturn, 1) := by decide +kernel
theorem dX10_row_10 : decode cX10_row 10 = .ok (.iload_n 2, 1) := by decide +kernel
theorem dX10_row_11 : decode cX10_row 11 = .ok (.iconst 0, 1) := by decide +kernel
theorem dX10_row_12 : decode cX10_row 12 = .ok (.sipush 255, 3) := by decide +kernel
theorem dX10_row_15 : decode cX10_row 15 = .ok (.invokestatic 70, 3) := by decide +kernel
theorem dX10_row_18 : decode cX10_row 18 = .ok (.ifCond .ne 10, 3) := by decide +kernel
theorem dX10_row_28 : decode cX10_row 28 = .ok (.aload_n 0, 1) := by decide +kernel
theorem dX10_row_29 : decode cX10_row 29 = .ok (.aload_n 0, 1) := by decide +kernel
theorem dX10_row_30 : decode cX10_row 30 = .ok (.getfield 81, 3) := by decide +kernel
theorem dX10_row_33 : decode cX10_row 33 = .ok (.ldc2_w 142, 3) := by decide +kernel
theorem dX10_row_36 : decode cX10_row 36 = .ok (.bipush 8, 2) := by decide +kernel
theorem dX10_row_38 : decode cX10_row 38 = .ok (.iload_n 1, 1) := by decide +kernel
theorem dX10_row_39 : decode cX10_row 39 = .ok (.imul, 1) := by decide +kernel
theorem dX10_row_40 : decode cX10_row 40 = .ok (.lshl, 1) := by decide +kernel
theorem dX10_row_41 : decode cX10_row 41 = .ok (.ldc2_w 126, 3) := by decide +kernel
theorem dX10_row_44 : decode cX10_row 44 = .ok (.lxor, 1) := by decide +kernel
theorem dX10_row_45 : decode cX10_row 45 = .ok (.land, 1) := by decide +kernel
theorem dX10_row_46 : decode cX10_row 46 = .ok (.iload_n 2, 1) := by decide +kernel
theorem dX10_row_47 : decode cX10_row 47 = .ok (.i2l, 1) := by decide +kernel
theorem dX10_row_48 : decode cX10_row 48 = .ok (.bipush 8, 2) := by decide +kernel
theorem dX10_row_50 : decode cX10_row 50 = .ok (.iload_n 1, 1) := by decide +kernel
theorem dX10_row_51 : decode cX10_row 51 = .ok (.imul, 1) := by decide +kernel
theorem dX10_row_52 : decode cX10_row 52 = .ok (.lshl, 1) := by decide +kernel
theorem dX10_row_53 : decode cX10_row 53 = .ok (.lor, 1) := by decide +kernel
set_option maxRecDepth 20000 in
theorem ggX10_row_X10_newFloor : GoodIn wsX10_row wsX10_newFloor := goodIn_r _ [17, 18, 4, 19, 20, 2, 21, 22, 23, 7, 24, 25, 26, 27, 28, 29, 30, 31, 32, 33, 9, 10, 11, 12, 13, 34, 35, 36, 37, 38, 39, 40, 41, 42, 43, 44, 45, 46, 5, 6, 8, 47, 48, 49, 50, 51, 52, 53, 54, 55, 56, 57, 58, 59, 60, 61, 62, 63, 64, 65, 66, 67, 68, 69, 70, 71, 72, 73, 74, 75, 76, 77, 78, 79, 80, 81, 82, 83, 84, 85, 86, 87, 88, 89, 90, 91, 92, 93, 94, 95, 96] (by decide +kernel) (by decide +kernel)
set_option maxRecDepth 20000 in
theorem gX10_row_X10_newFloor : GoodIn wsX10_row (wsV RX10 144 RX10 yX10_newFloor wsX10_newFloor) := goodIn_app (goodIn_of _ (by decide +kernel)) ggX10_row_X10_newFloor
theorem dX10_row_54 : decode cX10_row 54 = .ok (.invokevirtual 144, 3) := by decide +kernel
theorem dX10_row_57 : decode cX10_row 57 = .ok (.ireturn, 1) := by decide +kernel
set_option maxRecDepth 20000 in
theorem ihX10_row_10 : ∀ w ∈ u_ws RX10 TX10 30, w ∈ wsX10_row := by decide +kernel
set_option maxHeartbeats 4000000 in
set_option maxRecDepth 100000 in
theorem t_X10_row (l : Launch) (D : va_G) (cy : Nat → ClassId) (a : Nat → Nat) (sz : Nat) (J : Nat → Int64) (I : Nat → Int32) (R : Nat → Nat → Int32) (RJ : Nat → Nat → Int64) (x0 : Int32) (x1 : Int32) (hM : MI I R) : Met l yX10_row wsX10_row ({ frames := 5, cells := 0, slots := 0, locals := 115 }) (va_Pc [.ref (a 0), .int x0, .int x1] (PW D cy sz (MW cy a J I R RJ))) (va_Qi (fun r (u : MS) => ∃ (w0 : Int64), ∃ (w1 : Int32), ∃ (w2 : Int32), ∃ (w3 : Int32), ∃ (w4 : Nat → Int32), ∃ (w5 : Nat → Int32), ∃ (w6 : Nat → Int32), ∃ (w7 : Nat → Int64), ∃ (w8 : Nat → Int64), ∃ (w9 : Nat → Int64), ((isB w1) ∧ (vp_in w2 21) ∧ (∀ i, i < 20 → vp_in (w4 i) 21) ∧ (∀ i, i < 20 → isB (w6 i))) ∧ u = ((va_up J 0 w0), (va_up (va_up (va_up I 3 w1) 12 w2) 13 w3), (va_up (va_up (va_up R 3 w4) 4 w5) 5 w6), (va_up (va_up (va_up RJ 2 w7) 6 w8) 7 w9))) (BW D (va_A (MW cy a J I R RJ) sz) (MWu cy a)) (va_A (MW cy a J I R RJ) sz)) 0 0 (va_A (MW cy a J I R RJ) sz) := by
  refine Met.ofW (cc := cX10_row) (maxL := 3) (ret := (some .int)) (by decide) rfl ?_
  intro p e s m args below meth c s₁ B hml hv
  obtain ⟨rfl, rfl, hP, hK, hN, hD0⟩ := hv
  have hx := B.exec
  have hb := B.bytes
  have hr := B.returns
  have hts := atoms_spec (ws := wsX10_row) B.pre
  have hown : s.vm.findClass RX10 = some m.cls := findClass_of_methodNamed B.named
  have hlocks := B.notSynchronized
  have hw0 := hts (.constant RX10 141 (-100001)) (by decide +kernel)
  have hw1 := hts (.fieldLink RX10 81 "ParquetLayerModel" "floor" "J") (by decide +kernel)
  have hw2 := hts (.constantLong RX10 142 (255)) (by decide +kernel)
  have hw3 := hts (.constantLong RX10 126 (-1)) (by decide +kernel)
  have hi10 := ihX10_row_10
  have hD := hD0.self (sz := s.heap.size)
  generalize hAe : va_A (MW cy a J I R RJ) s.heap.size = A at hD ⊢
  have hA : ∀ q : Nat, s.heap.size ≤ q → A q := fun q h => by rw [← hAe]; exact Or.inr h
  have hS : va_S A s.heap s.heap [] := va_S.rf
  have hl := lv_entry ([.ref (a 0), .int x0, .int x1]) (n := 3) (Nat.le_of_ble_eq_true rfl)
  rw [lg_entry_eq]
  generalize (lg_sl ([.ref (a 0), .int x0, .int x1]) ++ List.replicate (3 - (lg_sl ([.ref (a 0), .int x0, .int x1])).length) Slot.unset).toArray = ls at hl ⊢
  have hl : lv_has ls 3 [(0, .ref (a 0)), (1, .int x0), (2, .int x1)] := hl
  have hP : va_P D vwCl (MW cy a (va_up J 0 (J 0)) (va_up (va_up (va_up I 3 (I 3)) 12 (I 12)) 13 (I 13)) (va_up (va_up (va_up R 3 (R 3)) 4 (R 4)) 5 (R 5)) (va_up (va_up (va_up RJ 2 (RJ 2)) 6 (RJ 6)) 7 (RJ 7))) s.heap := hP
  have hD : va_D A (MW cy a (va_up J 0 (J 0)) (va_up (va_up (va_up I 3 (I 3)) 12 (I 12)) 13 (I 13)) (va_up (va_up (va_up R 3 (R 3)) 4 (R 4)) 5 (R 5)) (va_up (va_up (va_up RJ 2 (RJ 2)) 6 (RJ 6)) 7 (RJ 7))) := hD
  refine lv_iload_n hx hb dX10_row_0 rfl (lv_at hl 1 rfl) ?_
  refine lv_iconst (v := 0) hx hb dX10_row_1 (by decide) ?_
  refine lv_bipush (v := 7) hx hb dX10_row_2 (by decide) ?_
  refine kS_i (As := [.int x0, .int 0, .int 7]) (rest := []) ⟨hx, hb, hml, hown, hts⟩ (c_X10_within l x0 0 7) (va_cwS 3 hts gX10_row_X10_within rfl rfl rfl (by decide +kernel) ⟨Nat.le_of_ble_eq_true rfl, Nat.le_of_ble_eq_true rfl⟩) rfl hl.1 rfl (Nat.le_of_ble_eq_true rfl) dX10_row_4 ⟨Nat.le_of_ble_eq_true rfl, Nat.le_of_ble_eq_true rfl⟩ ?_
  refine lv_if_eq (tgt := 21) hx hb dX10_row_7 (by decide) (fun c_1 => ?_) (fun c_1 => ?_)
  · replace c_1 := bI_f c_1
    refine lv_aload_n hx hb dX10_row_21 rfl (lv_at hl 0 rfl) ?_
    refine lv_ldc (v := (-100001)) hx hb hown hw0 dX10_row_22 ?_
    refine kM_i (As := [.int (-100001)]) (rest := []) (q0 := 0) ⟨hx, hb, hml, hown, hts⟩ (c_X10_finding l D cy a _ (va_up J 0 (J 0)) (va_up (va_up (va_up I 3 (I 3)) 12 (I 12)) 13 (I 13)) (va_up (va_up (va_up R 3 (R 3)) 4 (R 4)) 5 (R 5)) (va_up (va_up (va_up RJ 2 (RJ 2)) 6 (RJ 6)) 7 (RJ 7)) (-100001) ) (cwV 1 hts gX10_row_X10_finding rfl rfl rfl (by decide +kernel) ⟨Nat.le_of_ble_eq_true rfl, Nat.le_of_ble_eq_true rfl⟩) hK hN hP hD hS hA rfl rfl rfl hl.1 rfl (Nat.le_of_ble_eq_true rfl) dX10_row_24 ⟨Nat.le_of_ble_eq_true rfl, Nat.le_of_ble_eq_true rfl⟩ (fun r_2 u H locs hw hP hD hS => ?_)
    obtain ⟨rfl, rfl⟩ := hw
    have hP : va_P D vwCl (MW cy a (va_up J 0 (J 0)) (va_up (va_up (va_up I 3 (I 3)) 12 (I 12)) 13 ((I 13) + 1)) (va_up (va_up (va_up R 3 (R 3)) 4 (R 4)) 5 (R 5)) (va_up (va_up (va_up RJ 2 (RJ 2)) 6 (RJ 6)) 7 (RJ 7))) H := hP
    have hD : va_D A (MW cy a (va_up J 0 (J 0)) (va_up (va_up (va_up I 3 (I 3)) 12 (I 12)) 13 ((I 13) + 1)) (va_up (va_up (va_up R 3 (R 3)) 4 (R 4)) 5 (R 5)) (va_up (va_up (va_up RJ 2 (RJ 2)) 6 (RJ 6)) 7 (RJ 7))) := hD
    exact wret_i hx hb hr hlocks ((va_up J 0 (J 0)), (va_up (va_up (va_up I 3 (I 3)) 12 (I 12)) 13 ((I 13) + 1)), (va_up (va_up (va_up R 3 (R 3)) 4 (R 4)) 5 (R 5)), (va_up (va_up (va_up RJ 2 (RJ 2)) 6 (RJ 6)) 7 (RJ 7))) ⟨(J 0), (I 3), (I 12), ((I 13) + 1), (R 3), (R 4), (R 5), (RJ 2), (RJ 6), (RJ 7), ⟨hM.2.1, hM.2.2.1, hM.2.2.2.1, hM.2.2.2.2.1⟩, rfl⟩ hP hD hS dX10_row_27
  · replace c_1 := bI_t c_1
    refine lv_iload_n hx hb dX10_row_10 rfl (lv_at hl 2 rfl) ?_
    refine lv_iconst (v := 0) hx hb dX10_row_11 (by decide) ?_
    refine lv_sipush (v := 255) hx hb dX10_row_12 (by decide) ?_
    refine kS_i (As := [.int x1, .int 0, .int 255]) (rest := []) ⟨hx, hb, hml, hown, hts⟩ (c_X10_within l x1 0 255) (va_cwS 3 hts gX10_row_X10_within rfl rfl rfl (by decide +kernel) ⟨Nat.le_of_ble_eq_true rfl, Nat.le_of_ble_eq_true rfl⟩) rfl hl.1 rfl (Nat.le_of_ble_eq_true rfl) dX10_row_15 ⟨Nat.le_of_ble_eq_true rfl, Nat.le_of_ble_eq_true rfl⟩ ?_
    refine lv_if_ne (tgt := 28) hx hb dX10_row_18 (by decide) (fun c_3 => ?_) (fun c_3 => ?_)
    · replace c_3 := bI_t c_3
      refine lv_aload_n hx hb dX10_row_28 rfl (lv_at hl 0 rfl) ?_
      refine lv_aload_n hx hb dX10_row_29 rfl (lv_at hl 0 rfl) ?_
      refine va_get (D := D) (ci := 9) (v := .long (J 0)) (C := RX10) (T := TX10) (N := 30) hx hb hts hi10 hown hK hP 0 rfl rfl 0 (by decide) hw1 (fun _ h9 => h9) rfl dX10_row_30 ?_
      refine lv_ldc2 (v := 255) hx hb hown hw2 dX10_row_33 ?_
      refine lv_bipush (v := 8) hx hb dX10_row_36 (by decide) ?_
      refine lv_iload_n hx hb dX10_row_38 rfl (lv_at hl 1 rfl) ?_
      refine lv_imul hx hb dX10_row_39 ?_
      refine lv_lshl (v := (255 : Int64) <<< ((8 * x0 : Int32).toInt64 &&& 63)) hx hb dX10_row_40 rfl ?_
      refine lv_ldc2 (v := (-1)) hx hb hown hw3 dX10_row_41 ?_
      refine lv_lxor hx hb dX10_row_44 ?_
      refine lv_land hx hb dX10_row_45 ?_
      refine lv_iload_n hx hb dX10_row_46 rfl (lv_at hl 2 rfl) ?_
      refine lv_i2l (v := (x1 : Int32).toInt64) hx hb dX10_row_47 rfl ?_
      refine lv_bipush (v := 8) hx hb dX10_row_48 (by decide) ?_
      refine lv_iload_n hx hb dX10_row_50 rfl (lv_at hl 1 rfl) ?_
      refine lv_imul hx hb dX10_row_51 ?_
      refine lv_lshl (v := ((x1 : Int32).toInt64) <<< ((8 * x0 : Int32).toInt64 &&& 63)) hx hb dX10_row_52 rfl ?_
      refine lv_lor hx hb dX10_row_53 ?_
      refine kM_i (As := [.long (((J 0) &&& (((255 : Int64) <<< ((8 * x0 : Int32).toInt64 &&& 63)) ^^^ (-1))) ||| (((x1 : Int32).toInt64) <<< ((8 * x0 : Int32).toInt64 &&& 63)))]) (rest := []) (q0 := 0) ⟨hx, hb, hml, hown, hts⟩ (t_X10_newFloor l D cy a _ (va_up J 0 (J 0)) (va_up (va_up (va_up I 3 (I 3)) 12 (I 12)) 13 (I 13)) (va_up (va_up (va_up R 3 (R 3)) 4 (R 4)) 5 (R 5)) (va_up (va_up (va_up RJ 2 (RJ 2)) 6 (RJ 6)) 7 (RJ 7)) (((J 0) &&& (((255 : Int64) <<< ((8 * x0 : Int32).toInt64 &&& 63)) ^^^ (-1))) ||| (((x1 : Int32).toInt64) <<< ((8 * x0 : Int32).toInt64 &&& 63)))  ⟨hM.1, hM.2.1, hM.2.2.1, hM.2.2.2.1, hM.2.2.2.2.1, hM.2.2.2.2.2⟩) (cwV 1 hts gX10_row_X10_newFloor rfl rfl rfl (by decide +kernel) ⟨Nat.le_of_ble_eq_true rfl, Nat.le_of_ble_eq_true rfl⟩) hK hN hP hD hS hA rfl rfl rfl hl.1 rfl (Nat.le_of_ble_eq_true rfl) dX10_row_54 ⟨Nat.le_of_ble_eq_true rfl, Nat.le_of_ble_eq_true rfl⟩ (fun r_4 u H locs hw hP hD hS => ?_)
      obtain ⟨w_5, w_6, w_7, w_8, w_9, w_10, w_11, w_12, w_13, w_14, ⟨hi_15, hi_16, hi_17, hi_18⟩, rfl⟩ := hw
      have hP : va_P D vwCl (MW cy a (va_up J 0 w_5) (va_up (va_up (va_up I 3 w_6) 12 w_7) 13 w_8) (va_up (va_up (va_up R 3 w_9) 4 w_10) 5 w_11) (va_up (va_up (va_up RJ 2 w_12) 6 w_13) 7 w_14)) H := hP
      have hD : va_D A (MW cy a (va_up J 0 w_5) (va_up (va_up (va_up I 3 w_6) 12 w_7) 13 w_8) (va_up (va_up (va_up R 3 w_9) 4 w_10) 5 w_11) (va_up (va_up (va_up RJ 2 w_12) 6 w_13) 7 w_14)) := hD
      exact wret_i hx hb hr hlocks ((va_up J 0 w_5), (va_up (va_up (va_up I 3 w_6) 12 w_7) 13 w_8), (va_up (va_up (va_up R 3 w_9) 4 w_10) 5 w_11), (va_up (va_up (va_up RJ 2 w_12) 6 w_13) 7 w_14)) ⟨w_5, w_6, w_7, w_8, w_9, w_10, w_11, w_12, w_13, w_14, ⟨hi_15, hi_16, hi_17, hi_18⟩, rfl⟩ hP hD hS dX10_row_57
    · replace c_3 := bI_f c_3
      refine lv_aload_n hx hb dX10_row_21 rfl (lv_at hl 0 rfl) ?_
      refine lv_ldc (v := (-100001)) hx hb hown hw0 dX10_row_22 ?_
      refine kM_i (As := [.int (-100001)]) (rest := []) (q0 := 0) ⟨hx, hb, hml, hown, hts⟩ (c_X10_finding l D cy a _ (va_up J 0 (J 0)) (va_up (va_up (va_up I 3 (I 3)) 12 (I 12)) 13 (I 13)) (va_up (va_up (va_up R 3 (R 3)) 4 (R 4)) 5 (R 5)) (va_up (va_up (va_up RJ 2 (RJ 2)) 6 (RJ 6)) 7 (RJ 7)) (-100001) ) (cwV 1 hts gX10_row_X10_finding rfl rfl rfl (by decide +kernel) ⟨Nat.le_of_ble_eq_true rfl, Nat.le_of_ble_eq_true rfl⟩) hK hN hP hD hS hA rfl rfl rfl hl.1 rfl (Nat.le_of_ble_eq_true rfl) dX10_row_24 ⟨Nat.le_of_ble_eq_true rfl, Nat.le_of_ble_eq_true rfl⟩ (fun r_19 u H locs hw hP hD hS => ?_)
      obtain ⟨rfl, rfl⟩ := hw
      have hP : va_P D vwCl (MW cy a (va_up J 0 (J 0)) (va_up (va_up (va_up I 3 (I 3)) 12 (I 12)) 13 ((I 13) + 1)) (va_up (va_up (va_up R 3 (R 3)) 4 (R 4)) 5 (R 5)) (va_up (va_up (va_up RJ 2 (RJ 2)) 6 (RJ 6)) 7 (RJ 7))) H := hP
      have hD : va_D A (MW cy a (va_up J 0 (J 0)) (va_up (va_up (va_up I 3 (I 3)) 12 (I 12)) 13 ((I 13) + 1)) (va_up (va_up (va_up R 3 (R 3)) 4 (R 4)) 5 (R 5)) (va_up (va_up (va_up RJ 2 (RJ 2)) 6 (RJ 6)) 7 (RJ 7))) := hD
      exact wret_i hx hb hr hlocks ((va_up J 0 (J 0)), (va_up (va_up (va_up I 3 (I 3)) 12 (I 12)) 13 ((I 13) + 1)), (va_up (va_up (va_up R 3 (R 3)) 4 (R 4)) 5 (R 5)), (va_up (va_up (va_up RJ 2 (RJ 2)) 6 (RJ 6)) 7 (RJ 7))) ⟨(J 0), (I 3), (I 12), ((I 13) + 1), (R 3), (R 4), (R 5), (RJ 2), (RJ 6), (RJ 7), ⟨hM.2.1, hM.2.2.1, hM.2.2.2.1, hM.2.2.2.2.1⟩, rfl⟩ hP hD hS dX10_row_27
theorem dX10_has_0 : decode cX10_has 0 = .ok (.iload_n 1, 1) := by decide +kernel
set_option maxRecDepth 20000 in
theorem ggX10_has_X10_isField : GoodIn wsX10_has wsX10_isField := goodIn_r _ [6, 7, 8, 5, 9] (by decide +kernel) (by decide +kernel)
set_option maxRecDepth 20000 in
theorem gX10_has_X10_isField : GoodIn wsX10_has (va_wsS RX10 147 yX10_isField wsX10_isField) := goodIn_app (goodIn_of _ (by decide +kernel)) ggX10_has_X10_isField
theorem dX10_has_1 : decode cX10_has 1 = .ok (.invokestatic 147, 3) := by decide +kernel
theorem dX10_has_4 : decode cX10_has 4 = .ok (.ifCond .ne 12, 3) := by decide +kernel
theorem dX10_has_16 : decode cX10_has 16 = .ok (.aload_n 0, 1) := by decide +kernel
theorem dX10_has_17 : decode cX10_has 17 = .ok (.getfield 81, 3) := by decide +kernel
theorem dX10_has_20 : decode cX10_has 20 = .ok (.iload_n 1, 1) := by decide +kernel
set_option maxRecDepth 20000 in
theorem ggX10_has_X10_hasBit : GoodIn wsX10_has wsX10_hasBit := goodIn_r _ [17] (by decide +kernel) (by decide +kernel)
set_option maxRecDepth 20000 in
theorem gX10_has_X10_hasBit : GoodIn wsX10_has (va_wsS RX10 74 yX10_hasBit wsX10_hasBit) := goodIn_app (goodIn_of _ (by decide +kernel)) ggX10_has_X10_hasBit
theorem dX10_has_21 : decode cX10_has 21 = .ok (.invokestatic 74, 3) := by decide +kernel
theorem dX10_has_24 : decode cX10_has 24 = .ok (.ifCond .eq 7, 3) := by decide +kernel
theorem dX10_has_31 : decode cX10_has 31 = .ok (.iconst 0, 1) := by decide +kernel
theorem dX10_has_32 : decode cX10_has 32 = .ok (.ireturn, 1) := by decide +kernel
theorem dX10_has_27 : decode cX10_has 27 = .ok (.iconst 1, 1) := by decide +kernel
theorem dX10_has_28 : decode cX10_has 28 = .ok (.goto 4, 3) := by decide +kernel
theorem dX10_has_7 : decode cX10_has 7 = .ok (.aload_n 0, 1) := by decide +kernel
theorem dX10_has_8 : decode cX10_has 8 = .ok (.ldc 141, 2) := by decide +kernel
set_option maxRecDepth 20000 in
theorem ggX10_has_X10_finding : GoodIn wsX10_has wsX10_finding := goodIn_r _ [13, 14, 18, 19, 20, 21, 22, 23, 24, 25, 26, 27, 28, 29, 30, 31, 32, 33, 34, 35, 36, 37, 38, 39, 40, 41, 42, 43, 44, 45, 46, 47] (by decide +kernel) (by decide +kernel)
set_option maxRecDepth 20000 in
theorem gX10_has_X10_finding : GoodIn wsX10_has (wsV RX10 99 RX10 yX10_finding wsX10_finding) := goodIn_app (goodIn_of _ (by decide +kernel)) ggX10_has_X10_finding
theorem dX10_has_10 : decode cX10_has 10 = .ok (.invokevirtual 99, 3) := by decide +kernel
theorem dX10_has_13 : decode cX10_has 13 = .ok (.goto 19, 3) := by decide +kernel
set_option maxRecDepth 20000 in
theorem ihX10_has_10 : ∀ w ∈ u_ws RX10 TX10 30, w ∈ wsX10_has := by decide +kernel
set_option maxHeartbeats 4000000 in
set_option maxRecDepth 100000 in
theorem t_X10_has (l : Launch) (D : va_G) (cy : Nat → ClassId) (a : Nat → Nat) (sz : Nat) (J : Nat → Int64) (I : Nat → Int32) (R : Nat → Nat → Int32) (RJ : Nat → Nat → Int64) (x0 : Int32) (hM : MI I R) : Met l yX10_has wsX10_has ({ frames := 2, cells := 0, slots := 0, locals := 42 }) (va_Pc [.ref (a 0), .int x0] (PW D cy sz (MW cy a J I R RJ))) (va_Qi (fun r (u : MS) => ∃ (w0 : Int32), (r = (if m_within x0 0 63 then bI (m_hasBit (J 0) x0) else (-100001))) ∧ u = (J, (va_up I 13 w0), R, RJ)) (BW D (va_A (MW cy a J I R RJ) sz) (MWu cy a)) (va_A (MW cy a J I R RJ) sz)) 0 0 (va_A (MW cy a J I R RJ) sz) := by
  refine Met.ofW (cc := cX10_has) (maxL := 2) (ret := (some .int)) (by decide) rfl ?_
  intro p e s m args below meth c s₁ B hml hv
  obtain ⟨rfl, rfl, hP, hK, hN, hD0⟩ := hv
  have hx := B.exec
  have hb := B.bytes
  have hr := B.returns
  have hts := atoms_spec (ws := wsX10_has) B.pre
  have hown : s.vm.findClass RX10 = some m.cls := findClass_of_methodNamed B.named
  have hlocks := B.notSynchronized
  have hw0 := hts (.fieldLink RX10 81 "ParquetLayerModel" "floor" "J") (by decide +kernel)
  have hw1 := hts (.constant RX10 141 (-100001)) (by decide +kernel)
  have hi10 := ihX10_has_10
  have hD := hD0.self (sz := s.heap.size)
  generalize hAe : va_A (MW cy a J I R RJ) s.heap.size = A at hD ⊢
  have hA : ∀ q : Nat, s.heap.size ≤ q → A q := fun q h => by rw [← hAe]; exact Or.inr h
  have hS : va_S A s.heap s.heap [] := va_S.rf
  have hl := lv_entry ([.ref (a 0), .int x0]) (n := 2) (Nat.le_of_ble_eq_true rfl)
  rw [lg_entry_eq]
  generalize (lg_sl ([.ref (a 0), .int x0]) ++ List.replicate (2 - (lg_sl ([.ref (a 0), .int x0])).length) Slot.unset).toArray = ls at hl ⊢
  have hl : lv_has ls 2 [(0, .ref (a 0)), (1, .int x0)] := hl
  have hP : va_P D vwCl (MW cy a J (va_up I 13 (I 13)) R RJ) s.heap := hP
  have hD : va_D A (MW cy a J (va_up I 13 (I 13)) R RJ) := hD
  refine lv_iload_n hx hb dX10_has_0 rfl (lv_at hl 1 rfl) ?_
  refine kS_i (As := [.int x0]) (rest := []) ⟨hx, hb, hml, hown, hts⟩ (c_X10_isField l x0) (va_cwS 1 hts gX10_has_X10_isField rfl rfl rfl (by decide +kernel) ⟨Nat.le_of_ble_eq_true rfl, Nat.le_of_ble_eq_true rfl⟩) rfl hl.1 rfl (Nat.le_of_ble_eq_true rfl) dX10_has_1 ⟨Nat.le_of_ble_eq_true rfl, Nat.le_of_ble_eq_true rfl⟩ ?_
  refine lv_if_ne (tgt := 16) hx hb dX10_has_4 (by decide) (fun c_1 => ?_) (fun c_1 => ?_)
  · replace c_1 := bI_t c_1
    refine lv_aload_n hx hb dX10_has_16 rfl (lv_at hl 0 rfl) ?_
    refine va_get (D := D) (ci := 9) (v := .long (J 0)) (C := RX10) (T := TX10) (N := 30) hx hb hts hi10 hown hK hP 0 rfl rfl 0 (by decide) hw0 (fun _ h9 => h9) rfl dX10_has_17 ?_
    refine lv_iload_n hx hb dX10_has_20 rfl (lv_at hl 1 rfl) ?_
    refine kS_i (As := [.long (J 0), .int x0]) (rest := []) ⟨hx, hb, hml, hown, hts⟩ (c_X10_hasBit l (J 0) x0) (va_cwS 2 hts gX10_has_X10_hasBit rfl rfl rfl (by decide +kernel) ⟨Nat.le_of_ble_eq_true rfl, Nat.le_of_ble_eq_true rfl⟩) rfl hl.1 rfl (Nat.le_of_ble_eq_true rfl) dX10_has_21 ⟨Nat.le_of_ble_eq_true rfl, Nat.le_of_ble_eq_true rfl⟩ ?_
    refine lv_if_eq (tgt := 31) hx hb dX10_has_24 (by decide) (fun c_2 => ?_) (fun c_2 => ?_)
    · replace c_2 := bI_f c_2
      refine lv_iconst (v := 0) hx hb dX10_has_31 (by decide) ?_
      exact wret_i hx hb hr hlocks (J, (va_up I 13 (I 13)), R, RJ) ⟨(I 13), (by simp_all [bI]), rfl⟩ hP hD hS dX10_has_32
    · replace c_2 := bI_t c_2
      refine lv_iconst (v := 1) hx hb dX10_has_27 (by decide) ?_
      refine lv_goto (tgt := 32) hx hb dX10_has_28 (by decide) ?_
      exact wret_i hx hb hr hlocks (J, (va_up I 13 (I 13)), R, RJ) ⟨(I 13), (by simp_all [bI]), rfl⟩ hP hD hS dX10_has_32
  · replace c_1 := bI_f c_1
    refine lv_aload_n hx hb dX10_has_7 rfl (lv_at hl 0 rfl) ?_
    refine lv_ldc (v := (-100001)) hx hb hown hw1 dX10_has_8 ?_
    refine kM_i (As := [.int (-100001)]) (rest := []) (q0 := 0) ⟨hx, hb, hml, hown, hts⟩ (c_X10_finding l D cy a _ J (va_up I 13 (I 13)) R RJ (-100001) ) (cwV 1 hts gX10_has_X10_finding rfl rfl rfl (by decide +kernel) ⟨Nat.le_of_ble_eq_true rfl, Nat.le_of_ble_eq_true rfl⟩) hK hN hP hD hS hA rfl rfl rfl hl.1 rfl (Nat.le_of_ble_eq_true rfl) dX10_has_10 ⟨Nat.le_of_ble_eq_true rfl, Nat.le_of_ble_eq_true rfl⟩ (fun r_3 u H locs hw hP hD hS => ?_)
    obtain ⟨rfl, rfl⟩ := hw
    have hP : va_P D vwCl (MW cy a J (va_up I 13 ((I 13) + 1)) R RJ) H := hP
    have hD : va_D A (MW cy a J (va_up I 13 ((I 13) + 1)) R RJ) := hD
    refine lv_goto (tgt := 32) hx hb dX10_has_13 (by decide) ?_
    exact wret_i hx hb hr hlocks (J, (va_up I 13 ((I 13) + 1)), R, RJ) ⟨((I 13) + 1), (by simp_all [bI]), rfl⟩ hP hD hS dX10_has_32
theorem dX10_gluedMany_4 : decode cX10_gluedMany 4 = .ok (.iload_n 2, 1) := by decide +kernel
theorem dX10_gluedMany_5 : decode cX10_gluedMany 5 = .ok (.aload_n 0, 1) := by decide +kernel
theorem dX10_gluedMany_6 : decode cX10_gluedMany 6 = .ok (.getfield 85, 3) := by decide +kernel
theorem dX10_gluedMany_9 : decode cX10_gluedMany 9 = .ok (.if_icmp .ge 25, 3) := by decide +kernel
theorem dX10_gluedMany_34 : decode cX10_gluedMany 34 = .ok (.iload_n 1, 1) := by decide +kernel
theorem dX10_gluedMany_35 : decode cX10_gluedMany 35 = .ok (.ireturn, 1) := by decide +kernel
theorem dX10_gluedMany_12 : decode cX10_gluedMany 12 = .ok (.iload_n 1, 1) := by decide +kernel
theorem dX10_gluedMany_13 : decode cX10_gluedMany 13 = .ok (.aload_n 0, 1) := by decide +kernel
theorem dX10_gluedMany_14 : decode cX10_gluedMany 14 = .ok (.iload_n 2, 1) := by decide +kernel
set_option maxRecDepth 20000 in
theorem ggX10_gluedMany_X10_isGlued : GoodIn wsX10_gluedMany wsX10_isGlued := goodIn_r _ [6, 7, 8, 9, 5, 10, 11, 12, 13, 14, 15, 16, 17, 18, 19, 20, 21, 22, 23, 24, 25, 26, 27, 28, 29, 30, 31, 32, 33, 34, 35, 36, 37, 38, 39, 40, 41] (by decide +kernel) (by decide +kernel)
set_option maxRecDepth 20000 in
theorem gX10_gluedMany_X10_isGlued : GoodIn wsX10_gluedMany (wsV RX10 157 RX10 yX10_isGlued wsX10_isGlued) := goodIn_app (goodIn_of _ (by decide +kernel)) ggX10_gluedMany_X10_isGlued
theorem dX10_gluedMany_15 : decode cX10_gluedMany 15 = .ok (.invokevirtual 157, 3) := by decide +kernel
theorem dX10_gluedMany_18 : decode cX10_gluedMany 18 = .ok (.ifCond .eq 7, 3) := by decide +kernel
theorem dX10_gluedMany_25 : decode cX10_gluedMany 25 = .ok (.iconst 0, 1) := by decide +kernel
theorem dX10_gluedMany_26 : decode cX10_gluedMany 26 = .ok (.iadd, 1) := by decide +kernel
theorem dX10_gluedMany_27 : decode cX10_gluedMany 27 = .ok (.istore_n 1, 1) := by decide +kernel
theorem dX10_gluedMany_28 : decode cX10_gluedMany 28 = .ok (.iinc 2 1, 3) := by decide +kernel
theorem dX10_gluedMany_31 : decode cX10_gluedMany 31 = .ok (.goto (-27), 3) := by decide +kernel
theorem dX10_gluedMany_21 : decode cX10_gluedMany 21 = .ok (.iconst 1, 1) := by decide +kernel
theorem dX10_gluedMany_22 : decode cX10_gluedMany 22 = .ok (.goto 4, 3) := by decide +kernel
theorem dX10_gluedMany_0 : decode cX10_gluedMany 0 = .ok (.iconst 0, 1) := by decide +kernel
theorem dX10_gluedMany_1 : decode cX10_gluedMany 1 = .ok (.istore_n 1, 1) := by decide +kernel
theorem dX10_gluedMany_2 : decode cX10_gluedMany 2 = .ok (.iconst 0, 1) := by decide +kernel
theorem dX10_gluedMany_3 : decode cX10_gluedMany 3 = .ok (.istore_n 2, 1) := by decide +kernel
set_option maxRecDepth 20000 in
theorem ihX10_gluedMany_10 : ∀ w ∈ u_ws RX10 TX10 30, w ∈ wsX10_gluedMany := by decide +kernel
set_option maxHeartbeats 4000000 in
set_option maxRecDepth 100000 in
theorem t_X10_gluedMany (l : Launch) (D : va_G) (cy : Nat → ClassId) (a : Nat → Nat) (sz : Nat) (J : Nat → Int64) (I : Nat → Int32) (R : Nat → Nat → Int32) (RJ : Nat → Nat → Int64)  (hM : MI I R) : Met l yX10_gluedMany wsX10_gluedMany ({ frames := 2, cells := 0, slots := 0, locals := 42 }) (va_Pc [.ref (a 0)] (PW D cy sz (MW cy a J I R RJ))) (va_Qi (fun r (u : MS) => (True) ∧ u = (J, I, R, RJ)) (BW D (va_A (MW cy a J I R RJ) sz) (MWu cy a)) (va_A (MW cy a J I R RJ) sz)) 0 0 (va_A (MW cy a J I R RJ) sz) := by
  refine Met.ofW (cc := cX10_gluedMany) (maxL := 3) (ret := (some .int)) (by decide) rfl ?_
  intro p e s m args below meth c s₁ B hml hv
  obtain ⟨rfl, rfl, hP, hK, hN, hD0⟩ := hv
  have hx := B.exec
  have hb := B.bytes
  have hr := B.returns
  have hts := atoms_spec (ws := wsX10_gluedMany) B.pre
  have hown : s.vm.findClass RX10 = some m.cls := findClass_of_methodNamed B.named
  have hlocks := B.notSynchronized
  have hw0 := hts (.fieldLink RX10 85 "ParquetLayerModel" "stones" "I") (by decide +kernel)
  have hi10 := ihX10_gluedMany_10
  have hD := hD0.self (sz := s.heap.size)
  generalize hAe : va_A (MW cy a J I R RJ) s.heap.size = A at hD ⊢
  have hA : ∀ q : Nat, s.heap.size ≤ q → A q := fun q h => by rw [← hAe]; exact Or.inr h
  have hS : va_S A s.heap s.heap [] := va_S.rf
  have hl := lv_entry ([.ref (a 0)]) (n := 3) (Nat.le_of_ble_eq_true rfl)
  rw [lg_entry_eq]
  generalize (lg_sl ([.ref (a 0)]) ++ List.replicate (3 - (lg_sl ([.ref (a 0)])).length) Slot.unset).toArray = ls at hl ⊢
  have hl : lv_has ls 3 [(0, .ref (a 0))] := hl
  obtain ⟨ns, hns, hI1⟩ := vp_in_of hM.1 (by decide)
  have lp4 : ∀ (n4 : Nat), ∀ (i : Nat) (v1_4 : Int32), (i ≤ ns) → (ns - i) < n4 → ∀ (H : Heap) (locs : List Loc), va_P D vwCl (MW cy a J I R RJ) H → va_D A (MW cy a J I R RJ) → va_S A s.heap H locs → ∀ (ls : Array Slot), lv_has ls 3 [(0, .ref (a 0)), (1, .int v1_4), (2, .int (nI i))] → W p l e (headSpec wsX10_gluedMany ({ frames := 2, cells := 0, slots := 0, locals := 42 })).room s m ([.ref (a 0)] : List Value).toArray below meth c H locs 0 0 (MQ below (va_Qi (fun r (u : MS) => (True) ∧ u = (J, I, R, RJ)) (BW D A (MWu cy a)) A) ([.ref (a 0)] : List Value).toArray s 0 0 A) (F0 m 4 ls []) := by
    intro n4
    induction n4 with
    | zero => intro i v1_4 hi hn; exact absurd hn (Nat.not_lt_zero _)
    | succ n4 ih4 =>
      intro i v1_4 hi hn4 H locs hP hD hS ls hl
      refine lv_iload_n hx hb dX10_gluedMany_4 rfl (lv_at hl 2 rfl) ?_
      refine lv_aload_n hx hb dX10_gluedMany_5 rfl (lv_at hl 0 rfl) ?_
      refine va_get (D := D) (ci := 9) (v := .int (I 1)) (C := RX10) (T := TX10) (N := 30) hx hb hts hi10 hown hK hP 0 rfl rfl 1 (by decide) hw0 (fun _ h9 => h9) rfl dX10_gluedMany_6 ?_
      refine lv_icmp_ge (tgt := 34) hx hb dX10_gluedMany_9 (by decide) (fun c_1 => ?_) (fun c_1 => ?_)
      · refine lv_iload_n hx hb dX10_gluedMany_34 rfl (lv_at hl 1 rfl) ?_
        exact wret_i hx hb hr hlocks (J, I, R, RJ) ⟨trivial, rfl⟩ hP hD hS dX10_gluedMany_35
      · have hlt := ctr_lt (N := ns) (by omega) hi (by rw [← hI1]; exact c_1)
        refine lv_iload_n hx hb dX10_gluedMany_12 rfl (lv_at hl 1 rfl) ?_
        refine lv_aload_n hx hb dX10_gluedMany_13 rfl (lv_at hl 0 rfl) ?_
        refine lv_iload_n hx hb dX10_gluedMany_14 rfl (lv_at hl 2 rfl) ?_
        refine kR_i (As := [.int (nI i)]) (rest := [.int v1_4]) (q0 := 0) ⟨hx, hb, hml, hown, hts⟩ (c_X10_isGlued l D cy a _ J I R RJ (nI i) (vp_in_nI (by omega) (by decide))) (cwV 1 hts gX10_gluedMany_X10_isGlued rfl rfl rfl (by decide +kernel) ⟨Nat.le_of_ble_eq_true rfl, Nat.le_of_ble_eq_true rfl⟩) hK hN hP hD rfl rfl rfl hl.1 rfl (Nat.le_of_ble_eq_true rfl) dX10_gluedMany_15 ⟨Nat.le_of_ble_eq_true rfl, Nat.le_of_ble_eq_true rfl⟩ ?_
        refine lv_if_eq (tgt := 25) hx hb dX10_gluedMany_18 (by decide) (fun c_2 => ?_) (fun c_2 => ?_)
        · replace c_2 := bI_f c_2
          refine lv_iconst (v := 0) hx hb dX10_gluedMany_25 (by decide) ?_
          refine lv_iadd hx hb dX10_gluedMany_26 ?_
          refine lv_istore_n (lv' := [(1, .int (v1_4 + 0)), (0, .ref (a 0)), (2, .int (nI i))]) hx hb dX10_gluedMany_27 rfl hl (by decide) rfl (fun ls hl => ?_)
          refine lv_iinc (v := nI (i + 1)) (lv' := [(2, .int (nI (i + 1))), (1, .int (v1_4 + 0)), (0, .ref (a 0))]) hx hb dX10_gluedMany_28 hl (k := 2) rfl (nI_1 _) (by decide) rfl (fun ls hl => ?_)
          refine lv_goto (tgt := 4) hx hb dX10_gluedMany_31 (by decide) ?_
          exact ih4 (i + 1) (v1_4 + 0) (by omega) (by omega) _ _ hP hD hS ls (lv_sub hl [2, 1, 0] rfl)
        · replace c_2 := bI_t c_2
          refine lv_iconst (v := 1) hx hb dX10_gluedMany_21 (by decide) ?_
          refine lv_goto (tgt := 26) hx hb dX10_gluedMany_22 (by decide) ?_
          refine lv_iadd hx hb dX10_gluedMany_26 ?_
          refine lv_istore_n (lv' := [(1, .int (v1_4 + 1)), (0, .ref (a 0)), (2, .int (nI i))]) hx hb dX10_gluedMany_27 rfl hl (by decide) rfl (fun ls hl => ?_)
          refine lv_iinc (v := nI (i + 1)) (lv' := [(2, .int (nI (i + 1))), (1, .int (v1_4 + 1)), (0, .ref (a 0))]) hx hb dX10_gluedMany_28 hl (k := 2) rfl (nI_1 _) (by decide) rfl (fun ls hl => ?_)
          refine lv_goto (tgt := 4) hx hb dX10_gluedMany_31 (by decide) ?_
          exact ih4 (i + 1) (v1_4 + 1) (by omega) (by omega) _ _ hP hD hS ls (lv_sub hl [2, 1, 0] rfl)
  refine lv_iconst (v := 0) hx hb dX10_gluedMany_0 (by decide) ?_
  refine lv_istore_n (lv' := [(1, .int 0), (0, .ref (a 0))]) hx hb dX10_gluedMany_1 rfl hl (by decide) rfl (fun ls hl => ?_)
  refine lv_iconst (v := 0) hx hb dX10_gluedMany_2 (by decide) ?_
  refine lv_istore_n (lv' := [(2, .int 0), (1, .int 0), (0, .ref (a 0))]) hx hb dX10_gluedMany_3 rfl hl (by decide) rfl (fun ls hl => ?_)
  exact lp4 _ 0 (0 : Int32) (by omega) (Nat.lt_succ_self _) _ _ hP hD hS ls (lv_sub hl [2, 1, 0] rfl)
theorem dX10_stone_116 : decode cX10_stone 116 = .ok (.iload 9, 2) := by decide +kernel
theorem dX10_stone_118 : decode cX10_stone 118 = .ok (.aload_n 0, 1) := by decide +kernel
theorem dX10_stone_119 : decode cX10_stone 119 = .ok (.getfield 85, 3) := by decide +kernel
theorem dX10_stone_122 : decode cX10_stone 122 = .ok (.if_icmp .ge 53, 3) := by decide +kernel
theorem dX10_stone_175 : decode cX10_stone 175 = .ok (.iload_n 1, 1) := by decide +kernel
theorem dX10_stone_176 : decode cX10_stone 176 = .ok (.iconst 3, 1) := by decide +kernel
theorem dX10_stone_177 : decode cX10_stone 177 = .ok (.if_icmp .ne 22, 3) := by decide +kernel
theorem dX10_stone_199 : decode cX10_stone 199 = .ok (.aload_n 0, 1) := by decide +kernel
theorem dX10_stone_200 : decode cX10_stone 200 = .ok (.getfield 85, 3) := by decide +kernel
theorem dX10_stone_203 : decode cX10_stone 203 = .ok (.bipush 20, 2) := by decide +kernel
theorem dX10_stone_205 : decode cX10_stone 205 = .ok (.if_icmp .ne 10, 3) := by decide +kernel
theorem dX10_stone_215 : decode cX10_stone 215 = .ok (.aload_n 0, 1) := by decide +kernel
set_option maxRecDepth 20000 in
theorem ggX10_stone_X10_keep : GoodIn wsX10_stone wsX10_keep := goodIn_r _ [57, 58, 59, 60, 61, 62, 63, 64, 2, 5, 65, 66, 67, 9, 68, 69, 70, 71, 72, 73, 74, 75, 76, 77, 78, 79, 80, 81, 82, 83, 84, 85, 86, 87, 88, 89, 90, 91, 92, 93, 94, 95, 96, 97] (by decide +kernel) (by decide +kernel)
set_option maxRecDepth 20000 in
theorem gX10_stone_X10_keep : GoodIn wsX10_stone (wsV RX10 134 RX10 yX10_keep wsX10_keep) := goodIn_app (goodIn_of _ (by decide +kernel)) ggX10_stone_X10_keep
theorem dX10_stone_216 : decode cX10_stone 216 = .ok (.invokevirtual 134, 3) := by decide +kernel
theorem dX10_stone_219 : decode cX10_stone 219 = .ok (.aload_n 0, 1) := by decide +kernel
theorem dX10_stone_220 : decode cX10_stone 220 = .ok (.getfield 9, 3) := by decide +kernel
theorem dX10_stone_223 : decode cX10_stone 223 = .ok (.aload_n 0, 1) := by decide +kernel
theorem dX10_stone_224 : decode cX10_stone 224 = .ok (.getfield 85, 3) := by decide +kernel
theorem dX10_stone_227 : decode cX10_stone 227 = .ok (.iload_n 1, 1) := by decide +kernel
theorem dX10_stone_228 : decode cX10_stone 228 = .ok (.iload_n 2, 1) := by decide +kernel
theorem dX10_stone_229 : decode cX10_stone 229 = .ok (.iconst 2, 1) := by decide +kernel
theorem dX10_stone_230 : decode cX10_stone 230 = .ok (.ishl, 1) := by decide +kernel
theorem dX10_stone_231 : decode cX10_stone 231 = .ok (.ior, 1) := by decide +kernel
theorem dX10_stone_232 : decode cX10_stone 232 = .ok (.iload_n 3, 1) := by decide +kernel
theorem dX10_stone_233 : decode cX10_stone 233 = .ok (.ifCond .eq 9, 3) := by decide +kernel
theorem dX10_stone_242 : decode cX10_stone 242 = .ok (.iconst 0, 1) := by decide +kernel
theorem dX10_stone_243 : decode cX10_stone 243 = .ok (.ior, 1) := by decide +kernel
theorem dX10_stone_244 : decode cX10_stone 244 = .ok (.iload 4, 2) := by decide +kernel
theorem dX10_stone_246 : decode cX10_stone 246 = .ok (.bipush 9, 2) := by decide +kernel
theorem dX10_stone_248 : decode cX10_stone 248 = .ok (.ishl, 1) := by decide +kernel
theorem dX10_stone_249 : decode cX10_stone 249 = .ok (.ior, 1) := by decide +kernel
theorem dX10_stone_250 : decode cX10_stone 250 = .ok (.iastore, 1) := by decide +kernel
theorem dX10_stone_251 : decode cX10_stone 251 = .ok (.aload_n 0, 1) := by decide +kernel
theorem dX10_stone_252 : decode cX10_stone 252 = .ok (.dup, 1) := by decide +kernel
theorem dX10_stone_253 : decode cX10_stone 253 = .ok (.getfield 85, 3) := by decide +kernel
theorem dX10_stone_256 : decode cX10_stone 256 = .ok (.iconst 1, 1) := by decide +kernel
theorem dX10_stone_257 : decode cX10_stone 257 = .ok (.iadd, 1) := by decide +kernel
theorem dX10_stone_258 : decode cX10_stone 258 = .ok (.putfield 85, 3) := by decide +kernel
theorem dX10_stone_261 : decode cX10_stone 261 = .ok (.aload_n 0, 1) := by decide +kernel
theorem dX10_stone_262 : decode cX10_stone 262 = .ok (.getfield 85, 3) := by decide +kernel
theorem dX10_stone_265 : decode cX10_stone 265 = .ok (.iconst 1, 1) := by decide +kernel
theorem dX10_stone_266 : decode cX10_stone 266 = .ok (.isub, 1) := by decide +kernel
theorem dX10_stone_267 : decode cX10_stone 267 = .ok (.ireturn, 1) := by decide +kernel
theorem dX10_stone_236 : decode cX10_stone 236 = .ok (.sipush 256, 3) := by decide +kernel
theorem dX10_stone_239 : decode cX10_stone 239 = .ok (.goto 4, 3) := by decide +kernel
theorem dX10_stone_208 : decode cX10_stone 208 = .ok (.aload_n 0, 1) := by decide +kernel
theorem dX10_stone_209 : decode cX10_stone 209 = .ok (.ldc 177, 2) := by decide +kernel
set_option maxRecDepth 20000 in
theorem ggX10_stone_X10_finding : GoodIn wsX10_stone wsX10_finding := goodIn_r _ [20, 21, 68, 69, 70, 71, 72, 73, 74, 75, 76, 77, 78, 79, 80, 81, 82, 83, 84, 85, 86, 87, 88, 89, 90, 91, 92, 93, 94, 95, 96, 97] (by decide +kernel) (by decide +kernel)
set_option maxRecDepth 20000 in
theorem gX10_stone_X10_finding : GoodIn wsX10_stone (wsV RX10 99 RX10 yX10_finding wsX10_finding) := goodIn_app (goodIn_of _ (by decide +kernel)) ggX10_stone_X10_finding
theorem dX10_stone_211 : decode cX10_stone 211 = .ok (.invokevirtual 99, 3) := by decide +kernel
theorem dX10_stone_214 : decode cX10_stone 214 = .ok (.ireturn, 1) := by decide +kernel
theorem dX10_stone_180 : decode cX10_stone 180 = .ok (.aload_n 0, 1) := by decide +kernel
theorem dX10_stone_181 : decode cX10_stone 181 = .ok (.getfield 81, 3) := by decide +kernel
theorem dX10_stone_184 : decode cX10_stone 184 = .ok (.iload_n 2, 1) := by decide +kernel
theorem dX10_stone_185 : decode cX10_stone 185 = .ok (.iload_n 3, 1) := by decide +kernel
set_option maxRecDepth 20000 in
theorem ggX10_stone_X10_isAtEdge : GoodIn wsX10_stone wsX10_isAtEdge := goodIn_r _ [44, 45, 46, 12, 47, 48, 49, 50, 10, 11, 13, 51, 52, 53] (by decide +kernel) (by decide +kernel)
set_option maxRecDepth 20000 in
theorem gX10_stone_X10_isAtEdge : GoodIn wsX10_stone (va_wsS RX10 129 yX10_isAtEdge wsX10_isAtEdge) := goodIn_app (goodIn_of _ (by decide +kernel)) ggX10_stone_X10_isAtEdge
theorem dX10_stone_186 : decode cX10_stone 186 = .ok (.invokestatic 129, 3) := by decide +kernel
theorem dX10_stone_189 : decode cX10_stone 189 = .ok (.ifCond .ne 10, 3) := by decide +kernel
theorem dX10_stone_192 : decode cX10_stone 192 = .ok (.aload_n 0, 1) := by decide +kernel
theorem dX10_stone_193 : decode cX10_stone 193 = .ok (.ldc 133, 2) := by decide +kernel
theorem dX10_stone_195 : decode cX10_stone 195 = .ok (.invokevirtual 99, 3) := by decide +kernel
theorem dX10_stone_198 : decode cX10_stone 198 = .ok (.ireturn, 1) := by decide +kernel
theorem dX10_stone_125 : decode cX10_stone 125 = .ok (.iload 8, 2) := by decide +kernel
theorem dX10_stone_127 : decode cX10_stone 127 = .ok (.ifCond .eq 48, 3) := by decide +kernel
theorem dX10_stone_130 : decode cX10_stone 130 = .ok (.aload_n 0, 1) := by decide +kernel
theorem dX10_stone_131 : decode cX10_stone 131 = .ok (.iload 9, 2) := by decide +kernel
set_option maxRecDepth 20000 in
theorem ggX10_stone_X10_isGlued : GoodIn wsX10_stone wsX10_isGlued := goodIn_r _ [29, 30, 31, 32, 12, 33, 9, 68, 69, 70, 71, 72, 73, 74, 75, 76, 77, 78, 79, 80, 81, 82, 83, 84, 85, 86, 87, 88, 89, 90, 91, 92, 93, 94, 95, 96, 97] (by decide +kernel) (by decide +kernel)
set_option maxRecDepth 20000 in
theorem gX10_stone_X10_isGlued : GoodIn wsX10_stone (wsV RX10 157 RX10 yX10_isGlued wsX10_isGlued) := goodIn_app (goodIn_of _ (by decide +kernel)) ggX10_stone_X10_isGlued
theorem dX10_stone_133 : decode cX10_stone 133 = .ok (.invokevirtual 157, 3) := by decide +kernel
theorem dX10_stone_136 : decode cX10_stone 136 = .ok (.ifCond .eq 33, 3) := by decide +kernel
theorem dX10_stone_169 : decode cX10_stone 169 = .ok (.iinc 9 1, 3) := by decide +kernel
theorem dX10_stone_172 : decode cX10_stone 172 = .ok (.goto (-56), 3) := by decide +kernel
theorem dX10_stone_139 : decode cX10_stone 139 = .ok (.aload_n 0, 1) := by decide +kernel
theorem dX10_stone_140 : decode cX10_stone 140 = .ok (.iload 9, 2) := by decide +kernel
set_option maxRecDepth 20000 in
theorem ggX10_stone_X10_fieldOf : GoodIn wsX10_stone wsX10_fieldOf := goodIn_r _ [37, 9, 68, 69, 70, 71, 72, 73, 74, 75, 76, 77, 78, 79, 80, 81, 82, 83, 84, 85, 86, 87, 88, 89, 90, 91, 92, 93, 94, 95, 96, 97] (by decide +kernel) (by decide +kernel)
set_option maxRecDepth 20000 in
theorem gX10_stone_X10_fieldOf : GoodIn wsX10_stone (wsV RX10 115 RX10 yX10_fieldOf wsX10_fieldOf) := goodIn_app (goodIn_of _ (by decide +kernel)) ggX10_stone_X10_fieldOf
theorem dX10_stone_142 : decode cX10_stone 142 = .ok (.invokevirtual 115, 3) := by decide +kernel
theorem dX10_stone_145 : decode cX10_stone 145 = .ok (.aload_n 0, 1) := by decide +kernel
theorem dX10_stone_146 : decode cX10_stone 146 = .ok (.iload 9, 2) := by decide +kernel
set_option maxRecDepth 20000 in
theorem ggX10_stone_X10_isAcross : GoodIn wsX10_stone wsX10_isAcross := goodIn_r _ [41, 9, 68, 69, 70, 71, 72, 73, 74, 75, 76, 77, 78, 79, 80, 81, 82, 83, 84, 85, 86, 87, 88, 89, 90, 91, 92, 93, 94, 95, 96, 97] (by decide +kernel) (by decide +kernel)
set_option maxRecDepth 20000 in
theorem gX10_stone_X10_isAcross : GoodIn wsX10_stone (wsV RX10 118 RX10 yX10_isAcross wsX10_isAcross) := goodIn_app (goodIn_of _ (by decide +kernel)) ggX10_stone_X10_isAcross
theorem dX10_stone_148 : decode cX10_stone 148 = .ok (.invokevirtual 118, 3) := by decide +kernel
set_option maxRecDepth 20000 in
theorem ggX10_stone_X10_place : GoodIn wsX10_stone wsX10_place := goodIn_r _ [24, 25] (by decide +kernel) (by decide +kernel)
set_option maxRecDepth 20000 in
theorem gX10_stone_X10_place : GoodIn wsX10_stone (va_wsS RX10 122 yX10_place wsX10_place) := goodIn_app (goodIn_of _ (by decide +kernel)) ggX10_stone_X10_place
theorem dX10_stone_151 : decode cX10_stone 151 = .ok (.invokestatic 122, 3) := by decide +kernel
theorem dX10_stone_154 : decode cX10_stone 154 = .ok (.lload 6, 2) := by decide +kernel
theorem dX10_stone_156 : decode cX10_stone 156 = .ok (.land, 1) := by decide +kernel
theorem dX10_stone_157 : decode cX10_stone 157 = .ok (.lconst 0, 1) := by decide +kernel
theorem dX10_stone_158 : decode cX10_stone 158 = .ok (.lcmp, 1) := by decide +kernel
theorem dX10_stone_159 : decode cX10_stone 159 = .ok (.ifCond .eq 10, 3) := by decide +kernel
theorem dX10_stone_162 : decode cX10_stone 162 = .ok (.aload_n 0, 1) := by decide +kernel
theorem dX10_stone_163 : decode cX10_stone 163 = .ok (.ldc 128, 2) := by decide +kernel
theorem dX10_stone_165 : decode cX10_stone 165 = .ok (.invokevirtual 99, 3) := by decide +kernel
theorem dX10_stone_168 : decode cX10_stone 168 = .ok (.ireturn, 1) := by decide +kernel
theorem dX10_stone_0 : decode cX10_stone 0 = .ok (.iload_n 1, 1) := by decide +kernel
theorem dX10_stone_1 : decode cX10_stone 1 = .ok (.iconst 0, 1) := by decide +kernel
theorem dX10_stone_2 : decode cX10_stone 2 = .ok (.iconst 3, 1) := by decide +kernel
set_option maxRecDepth 20000 in
theorem ggX10_stone_X10_within : GoodIn wsX10_stone wsX10_within := goodIn_r _ [13] (by decide +kernel) (by decide +kernel)
set_option maxRecDepth 20000 in
theorem gX10_stone_X10_within : GoodIn wsX10_stone (va_wsS RX10 70 yX10_within wsX10_within) := goodIn_app (goodIn_of _ (by decide +kernel)) ggX10_stone_X10_within
theorem dX10_stone_3 : decode cX10_stone 3 = .ok (.invokestatic 70, 3) := by decide +kernel
theorem dX10_stone_6 : decode cX10_stone 6 = .ok (.ifCond .eq 38, 3) := by decide +kernel
theorem dX10_stone_44 : decode cX10_stone 44 = .ok (.iconst 0, 1) := by decide +kernel
theorem dX10_stone_45 : decode cX10_stone 45 = .ok (.istore 5, 2) := by decide +kernel
theorem dX10_stone_47 : decode cX10_stone 47 = .ok (.iload 5, 2) := by decide +kernel
theorem dX10_stone_49 : decode cX10_stone 49 = .ok (.ifCond .ne 10, 3) := by decide +kernel
theorem dX10_stone_52 : decode cX10_stone 52 = .ok (.aload_n 0, 1) := by decide +kernel
theorem dX10_stone_53 : decode cX10_stone 53 = .ok (.ldc 141, 2) := by decide +kernel
theorem dX10_stone_55 : decode cX10_stone 55 = .ok (.invokevirtual 99, 3) := by decide +kernel
theorem dX10_stone_58 : decode cX10_stone 58 = .ok (.ireturn, 1) := by decide +kernel
theorem dX10_stone_9 : decode cX10_stone 9 = .ok (.iload_n 2, 1) := by decide +kernel
set_option maxRecDepth 20000 in
theorem ggX10_stone_X10_isField : GoodIn wsX10_stone wsX10_isField := goodIn_r _ [16, 10, 11, 12, 13] (by decide +kernel) (by decide +kernel)
set_option maxRecDepth 20000 in
theorem gX10_stone_X10_isField : GoodIn wsX10_stone (va_wsS RX10 147 yX10_isField wsX10_isField) := goodIn_app (goodIn_of _ (by decide +kernel)) ggX10_stone_X10_isField
theorem dX10_stone_10 : decode cX10_stone 10 = .ok (.invokestatic 147, 3) := by decide +kernel
theorem dX10_stone_13 : decode cX10_stone 13 = .ok (.ifCond .eq 31, 3) := by decide +kernel
theorem dX10_stone_16 : decode cX10_stone 16 = .ok (.iload_n 1, 1) := by decide +kernel
theorem dX10_stone_17 : decode cX10_stone 17 = .ok (.iconst 2, 1) := by decide +kernel
theorem dX10_stone_18 : decode cX10_stone 18 = .ok (.if_icmp .ne 17, 3) := by decide +kernel
theorem dX10_stone_35 : decode cX10_stone 35 = .ok (.iload 4, 2) := by decide +kernel
theorem dX10_stone_37 : decode cX10_stone 37 = .ok (.ifCond .ne 7, 3) := by decide +kernel
theorem dX10_stone_40 : decode cX10_stone 40 = .ok (.iconst 1, 1) := by decide +kernel
theorem dX10_stone_41 : decode cX10_stone 41 = .ok (.goto 4, 3) := by decide +kernel
theorem dX10_stone_59 : decode cX10_stone 59 = .ok (.iload_n 2, 1) := by decide +kernel
theorem dX10_stone_60 : decode cX10_stone 60 = .ok (.iload_n 3, 1) := by decide +kernel
theorem dX10_stone_61 : decode cX10_stone 61 = .ok (.invokestatic 122, 3) := by decide +kernel
theorem dX10_stone_64 : decode cX10_stone 64 = .ok (.lstore 6, 2) := by decide +kernel
theorem dX10_stone_66 : decode cX10_stone 66 = .ok (.lload 6, 2) := by decide +kernel
theorem dX10_stone_68 : decode cX10_stone 68 = .ok (.lconst 0, 1) := by decide +kernel
theorem dX10_stone_69 : decode cX10_stone 69 = .ok (.lcmp, 1) := by decide +kernel
theorem dX10_stone_70 : decode cX10_stone 70 = .ok (.ifCond .eq 19, 3) := by decide +kernel
theorem dX10_stone_89 : decode cX10_stone 89 = .ok (.aload_n 0, 1) := by decide +kernel
theorem dX10_stone_90 : decode cX10_stone 90 = .ok (.ldc 176, 2) := by decide +kernel
theorem dX10_stone_92 : decode cX10_stone 92 = .ok (.invokevirtual 99, 3) := by decide +kernel
theorem dX10_stone_95 : decode cX10_stone 95 = .ok (.ireturn, 1) := by decide +kernel
theorem dX10_stone_73 : decode cX10_stone 73 = .ok (.lload 6, 2) := by decide +kernel
theorem dX10_stone_75 : decode cX10_stone 75 = .ok (.aload_n 0, 1) := by decide +kernel
theorem dX10_stone_76 : decode cX10_stone 76 = .ok (.getfield 81, 3) := by decide +kernel
theorem dX10_stone_79 : decode cX10_stone 79 = .ok (.ldc2_w 126, 3) := by decide +kernel
theorem dX10_stone_82 : decode cX10_stone 82 = .ok (.lxor, 1) := by decide +kernel
theorem dX10_stone_83 : decode cX10_stone 83 = .ok (.land, 1) := by decide +kernel
theorem dX10_stone_84 : decode cX10_stone 84 = .ok (.lconst 0, 1) := by decide +kernel
theorem dX10_stone_85 : decode cX10_stone 85 = .ok (.lcmp, 1) := by decide +kernel
theorem dX10_stone_86 : decode cX10_stone 86 = .ok (.ifCond .eq 10, 3) := by decide +kernel
theorem dX10_stone_96 : decode cX10_stone 96 = .ok (.iload_n 1, 1) := by decide +kernel
theorem dX10_stone_97 : decode cX10_stone 97 = .ok (.iconst 1, 1) := by decide +kernel
theorem dX10_stone_98 : decode cX10_stone 98 = .ok (.if_icmp .eq 8, 3) := by decide +kernel
theorem dX10_stone_106 : decode cX10_stone 106 = .ok (.iconst 1, 1) := by decide +kernel
theorem dX10_stone_107 : decode cX10_stone 107 = .ok (.goto 4, 3) := by decide +kernel
theorem dX10_stone_111 : decode cX10_stone 111 = .ok (.istore 8, 2) := by decide +kernel
theorem dX10_stone_113 : decode cX10_stone 113 = .ok (.iconst 0, 1) := by decide +kernel
theorem dX10_stone_114 : decode cX10_stone 114 = .ok (.istore 9, 2) := by decide +kernel
theorem dX10_stone_101 : decode cX10_stone 101 = .ok (.iload_n 1, 1) := by decide +kernel
theorem dX10_stone_102 : decode cX10_stone 102 = .ok (.iconst 2, 1) := by decide +kernel
theorem dX10_stone_103 : decode cX10_stone 103 = .ok (.if_icmp .ne 7, 3) := by decide +kernel
theorem dX10_stone_110 : decode cX10_stone 110 = .ok (.iconst 0, 1) := by decide +kernel
theorem dX10_stone_21 : decode cX10_stone 21 = .ok (.iload 4, 2) := by decide +kernel
theorem dX10_stone_23 : decode cX10_stone 23 = .ok (.iconst 1, 1) := by decide +kernel
theorem dX10_stone_24 : decode cX10_stone 24 = .ok (.bipush 99, 2) := by decide +kernel
theorem dX10_stone_26 : decode cX10_stone 26 = .ok (.invokestatic 70, 3) := by decide +kernel
theorem dX10_stone_29 : decode cX10_stone 29 = .ok (.ifCond .eq 15, 3) := by decide +kernel
theorem dX10_stone_32 : decode cX10_stone 32 = .ok (.goto 8, 3) := by decide +kernel
set_option maxRecDepth 20000 in
theorem ihX10_stone_10 : ∀ w ∈ u_ws RX10 TX10 30, w ∈ wsX10_stone := by decide +kernel
set_option maxHeartbeats 4000000 in
set_option maxRecDepth 100000 in
theorem t_X10_stone (l : Launch) (D : va_G) (cy : Nat → ClassId) (a : Nat → Nat) (sz : Nat) (J : Nat → Int64) (I : Nat → Int32) (R : Nat → Nat → Int32) (RJ : Nat → Nat → Int64) (x0 : Int32) (x1 : Int32) (x2 : Bool) (x3 : Int32) (hM : MI I R) : Met l yX10_stone wsX10_stone ({ frames := 4, cells := 0, slots := 0, locals := 92 }) (va_Pc [.ref (a 0), .int x0, .int x1, .int (bI x2), .int x3] (PW D cy sz (MW cy a J I R RJ))) (va_Qi (fun r (u : MS) => ∃ (w0 : Int32), ∃ (w1 : Int32), ∃ (w2 : Int32), ∃ (w3 : Int32), ∃ (w4 : Nat → Int32), ∃ (w5 : Nat → Int32), ∃ (w6 : Nat → Int32), ∃ (w7 : Nat → Int32), ∃ (w8 : Nat → Int64), ∃ (w9 : Nat → Int64), ∃ (w10 : Nat → Int64), ((vp_in w0 21) ∧ (isB w1) ∧ (vp_in w2 21) ∧ (∀ i, i < 20 → vp_in (w5 i) 21) ∧ (∀ i, i < 20 → isB (w7 i))) ∧ u = (J, (va_up (va_up (va_up (va_up I 1 w0) 3 w1) 12 w2) 13 w3), (va_up (va_up (va_up (va_up R 1 w4) 3 w5) 4 w6) 5 w7), (va_up (va_up (va_up RJ 2 w8) 6 w9) 7 w10))) (BW D (va_A (MW cy a J I R RJ) sz) (MWu cy a)) (va_A (MW cy a J I R RJ) sz)) 0 0 (va_A (MW cy a J I R RJ) sz) := by
  refine Met.ofW (cc := cX10_stone) (maxL := 10) (ret := (some .int)) (by decide) rfl ?_
  intro p e s m args below meth c s₁ B hml hv
  obtain ⟨rfl, rfl, hP, hK, hN, hD0⟩ := hv
  have hx := B.exec
  have hb := B.bytes
  have hr := B.returns
  have hts := atoms_spec (ws := wsX10_stone) B.pre
  have hown : s.vm.findClass RX10 = some m.cls := findClass_of_methodNamed B.named
  have hlocks := B.notSynchronized
  have hw0 := hts (.fieldLink RX10 85 "ParquetLayerModel" "stones" "I") (by decide +kernel)
  have hw1 := hts (.fieldLink RX10 9 "ParquetLayerModel" "stone" "[I") (by decide +kernel)
  have hw2 := hts (.constant RX10 177 (-100005)) (by decide +kernel)
  have hw3 := hts (.fieldLink RX10 81 "ParquetLayerModel" "floor" "J") (by decide +kernel)
  have hw4 := hts (.constant RX10 133 (-100004)) (by decide +kernel)
  have hw5 := hts (.constant RX10 128 (-100007)) (by decide +kernel)
  have hw6 := hts (.constant RX10 141 (-100001)) (by decide +kernel)
  have hw7 := hts (.constant RX10 176 (-100003)) (by decide +kernel)
  have hw8 := hts (.constantLong RX10 126 (-1)) (by decide +kernel)
  have hi10 := ihX10_stone_10
  have hD := hD0.self (sz := s.heap.size)
  generalize hAe : va_A (MW cy a J I R RJ) s.heap.size = A at hD ⊢
  have hA : ∀ q : Nat, s.heap.size ≤ q → A q := fun q h => by rw [← hAe]; exact Or.inr h
  have hS : va_S A s.heap s.heap [] := va_S.rf
  have hl := lv_entry ([.ref (a 0), .int x0, .int x1, .int (bI x2), .int x3]) (n := 10) (Nat.le_of_ble_eq_true rfl)
  rw [lg_entry_eq]
  generalize (lg_sl ([.ref (a 0), .int x0, .int x1, .int (bI x2), .int x3]) ++ List.replicate (10 - (lg_sl ([.ref (a 0), .int x0, .int x1, .int (bI x2), .int x3])).length) Slot.unset).toArray = ls at hl ⊢
  have hl : lv_has ls 10 [(0, .ref (a 0)), (1, .int x0), (2, .int x1), (3, .int (bI x2)), (4, .int x3)] := hl
  obtain ⟨ns, hns, hI1⟩ := vp_in_of hM.1 (by decide)
  have hP : va_P D vwCl (MW cy a J (va_up (va_up (va_up (va_up I 1 (I 1)) 3 (I 3)) 12 (I 12)) 13 (I 13)) (va_up (va_up (va_up (va_up R 1 (R 1)) 3 (R 3)) 4 (R 4)) 5 (R 5)) (va_up (va_up (va_up RJ 2 (RJ 2)) 6 (RJ 6)) 7 (RJ 7))) s.heap := hP
  have hD : va_D A (MW cy a J (va_up (va_up (va_up (va_up I 1 (I 1)) 3 (I 3)) 12 (I 12)) 13 (I 13)) (va_up (va_up (va_up (va_up R 1 (R 1)) 3 (R 3)) 4 (R 4)) 5 (R 5)) (va_up (va_up (va_up RJ 2 (RJ 2)) 6 (RJ 6)) 7 (RJ 7))) := hD
  have lp116 : ∀ (n116 : Nat), ∀ (i : Nat) (v6_116 : Int64) (v8_116 : Int32) (m0_116 : Int32) (m1_116 : Int32) (m2_116 : Int32) (m3_116 : Int32) (m4_116 : Nat → Int32) (m5_116 : Nat → Int32) (m6_116 : Nat → Int32) (m7_116 : Nat → Int32) (m8_116 : Nat → Int64) (m9_116 : Nat → Int64) (m10_116 : Nat → Int64), (i ≤ ns) → (vp_in m0_116 21) → (isB m1_116) → (vp_in m2_116 21) → (∀ i, i < 20 → vp_in (m5_116 i) 21) → (∀ i, i < 20 → isB (m7_116 i)) → (m0_116 = I 1) → (ns - i) < n116 → ∀ (H : Heap) (locs : List Loc), va_P D vwCl (MW cy a J (va_up (va_up (va_up (va_up I 1 m0_116) 3 m1_116) 12 m2_116) 13 m3_116) (va_up (va_up (va_up (va_up R 1 m4_116) 3 m5_116) 4 m6_116) 5 m7_116) (va_up (va_up (va_up RJ 2 m8_116) 6 m9_116) 7 m10_116)) H → va_D A (MW cy a J (va_up (va_up (va_up (va_up I 1 m0_116) 3 m1_116) 12 m2_116) 13 m3_116) (va_up (va_up (va_up (va_up R 1 m4_116) 3 m5_116) 4 m6_116) 5 m7_116) (va_up (va_up (va_up RJ 2 m8_116) 6 m9_116) 7 m10_116)) → va_S A s.heap H locs → ∀ (ls : Array Slot), lv_has ls 10 [(0, .ref (a 0)), (1, .int x0), (2, .int x1), (3, .int (bI x2)), (4, .int x3), (6, .long v6_116), (8, .int v8_116), (9, .int (nI i))] → W p l e (headSpec wsX10_stone ({ frames := 4, cells := 0, slots := 0, locals := 92 })).room s m ([.ref (a 0), .int x0, .int x1, .int (bI x2), .int x3] : List Value).toArray below meth c H locs 0 0 (MQ below (va_Qi (fun r (u : MS) => ∃ (w0 : Int32), ∃ (w1 : Int32), ∃ (w2 : Int32), ∃ (w3 : Int32), ∃ (w4 : Nat → Int32), ∃ (w5 : Nat → Int32), ∃ (w6 : Nat → Int32), ∃ (w7 : Nat → Int32), ∃ (w8 : Nat → Int64), ∃ (w9 : Nat → Int64), ∃ (w10 : Nat → Int64), ((vp_in w0 21) ∧ (isB w1) ∧ (vp_in w2 21) ∧ (∀ i, i < 20 → vp_in (w5 i) 21) ∧ (∀ i, i < 20 → isB (w7 i))) ∧ u = (J, (va_up (va_up (va_up (va_up I 1 w0) 3 w1) 12 w2) 13 w3), (va_up (va_up (va_up (va_up R 1 w4) 3 w5) 4 w6) 5 w7), (va_up (va_up (va_up RJ 2 w8) 6 w9) 7 w10))) (BW D A (MWu cy a)) A) ([.ref (a 0), .int x0, .int x1, .int (bI x2), .int x3] : List Value).toArray s 0 0 A) (F0 m 116 ls []) := by
    intro n116
    induction n116 with
    | zero => intro i v6_116 v8_116 m0_116 m1_116 m2_116 m3_116 m4_116 m5_116 m6_116 m7_116 m8_116 m9_116 m10_116 hi hm_m0_116 hm_m1_116 hm_m2_116 hm_m5_116 hm_m7_116 hst hn; exact absurd hn (Nat.not_lt_zero _)
    | succ n116 ih116 =>
      intro i v6_116 v8_116 m0_116 m1_116 m2_116 m3_116 m4_116 m5_116 m6_116 m7_116 m8_116 m9_116 m10_116 hi hm_m0_116 hm_m1_116 hm_m2_116 hm_m5_116 hm_m7_116 hst hn116 H locs hP hD hS ls hl
      refine lv_iload hx hb dX10_stone_116 (lv_at hl 7 rfl) ?_
      refine lv_aload_n hx hb dX10_stone_118 rfl (lv_at hl 0 rfl) ?_
      refine va_get (D := D) (ci := 9) (v := .int m0_116) (C := RX10) (T := TX10) (N := 30) hx hb hts hi10 hown hK hP 0 rfl rfl 1 (by decide) hw0 (fun _ h9 => h9) rfl dX10_stone_119 ?_
      refine lv_icmp_ge (tgt := 175) hx hb dX10_stone_122 (by decide) (fun c_1 => ?_) (fun c_1 => ?_)
      · refine lv_iload_n hx hb dX10_stone_175 rfl (lv_at hl 1 rfl) ?_
        refine lv_iconst (v := 3) hx hb dX10_stone_176 (by decide) ?_
        refine lv_icmp_ne (tgt := 199) hx hb dX10_stone_177 (by decide) (fun c_2 => ?_) (fun c_2 => ?_)
        · refine lv_aload_n hx hb dX10_stone_199 rfl (lv_at hl 0 rfl) ?_
          refine va_get (D := D) (ci := 9) (v := .int m0_116) (C := RX10) (T := TX10) (N := 30) hx hb hts hi10 hown hK hP 0 rfl rfl 1 (by decide) hw0 (fun _ h9 => h9) rfl dX10_stone_200 ?_
          refine lv_bipush (v := 20) hx hb dX10_stone_203 (by decide) ?_
          refine lv_icmp_ne (tgt := 215) hx hb dX10_stone_205 (by decide) (fun c_3 => ?_) (fun c_3 => ?_)
          · refine lv_aload_n hx hb dX10_stone_215 rfl (lv_at hl 0 rfl) ?_
            refine kM_v (As := []) (rest := []) (q0 := 0) ⟨hx, hb, hml, hown, hts⟩ (t_X10_keep l D cy a _ J (va_up (va_up (va_up (va_up I 1 m0_116) 3 m1_116) 12 m2_116) 13 m3_116) (va_up (va_up (va_up (va_up R 1 m4_116) 3 m5_116) 4 m6_116) 5 m7_116) (va_up (va_up (va_up RJ 2 m8_116) 6 m9_116) 7 m10_116)   ⟨hm_m0_116, hm_m1_116, hm_m2_116, hm_m5_116, hm_m7_116, hM.2.2.2.2.2⟩) (cwV 0 hts gX10_stone_X10_keep rfl rfl rfl (by decide +kernel) ⟨Nat.le_of_ble_eq_true rfl, Nat.le_of_ble_eq_true rfl⟩) hK hN hP hD hS hA rfl rfl rfl hl.1 rfl (Nat.le_of_ble_eq_true rfl) dX10_stone_216 ⟨Nat.le_of_ble_eq_true rfl, Nat.le_of_ble_eq_true rfl⟩ (fun u H locs hw hP hD hS => ?_)
            obtain ⟨w_5, w_6, w_7, w_8, w_9, w_10, w_11, w_12, ⟨hi_13, hi_14, hi_15, hi_16⟩, rfl⟩ := hw
            have hP : va_P D vwCl (MW cy a J (va_up (va_up (va_up (va_up I 1 m0_116) 3 w_5) 12 w_6) 13 m3_116) (va_up (va_up (va_up (va_up R 1 m4_116) 3 w_7) 4 w_8) 5 w_9) (va_up (va_up (va_up RJ 2 w_10) 6 w_11) 7 w_12)) H := hP
            have hD : va_D A (MW cy a J (va_up (va_up (va_up (va_up I 1 m0_116) 3 w_5) 12 w_6) 13 m3_116) (va_up (va_up (va_up (va_up R 1 m4_116) 3 w_7) 4 w_8) 5 w_9) (va_up (va_up (va_up RJ 2 w_10) 6 w_11) 7 w_12)) := hD
            refine lv_aload_n hx hb dX10_stone_219 rfl (lv_at hl 0 rfl) ?_
            refine va_get (D := D) (ci := 9) (v := .ref (a 1)) (C := RX10) (T := TX10) (N := 30) hx hb hts hi10 hown hK hP 0 rfl rfl 2 (by decide) hw1 (fun _ h9 => h9) rfl dX10_stone_220 ?_
            refine lv_aload_n hx hb dX10_stone_223 rfl (lv_at hl 0 rfl) ?_
            refine va_get (D := D) (ci := 9) (v := .int m0_116) (C := RX10) (T := TX10) (N := 30) hx hb hts hi10 hown hK hP 0 rfl rfl 1 (by decide) hw0 (fun _ h9 => h9) rfl dX10_stone_224 ?_
            refine lv_iload_n hx hb dX10_stone_227 rfl (lv_at hl 1 rfl) ?_
            refine lv_iload_n hx hb dX10_stone_228 rfl (lv_at hl 2 rfl) ?_
            refine lv_iconst (v := 2) hx hb dX10_stone_229 (by decide) ?_
            refine lv_ishl hx hb dX10_stone_230 ?_
            refine lv_ior hx hb dX10_stone_231 ?_
            refine lv_iload_n hx hb dX10_stone_232 rfl (lv_at hl 3 rfl) ?_
            refine lv_if_eq (tgt := 242) hx hb dX10_stone_233 (by decide) (fun c_17 => ?_) (fun c_17 => ?_)
            · replace c_17 := bI_f c_17
              refine lv_iconst (v := 0) hx hb dX10_stone_242 (by decide) ?_
              refine lv_ior hx hb dX10_stone_243 ?_
              refine lv_iload hx hb dX10_stone_244 (lv_at hl 4 rfl) ?_
              refine lv_bipush (v := 9) hx hb dX10_stone_246 (by decide) ?_
              refine lv_ishl hx hb dX10_stone_248 ?_
              refine lv_ior hx hb dX10_stone_249 ?_
              refine va_iast hx hb hK hP hD hS 1 0 rfl rfl (in_ne hm_m0_116 c_3) dX10_stone_250 (fun H locs hP hD hS => ?_)
              have hP : va_P D vwCl (MW cy a J (va_up (va_up (va_up (va_up I 1 m0_116) 3 w_5) 12 w_6) 13 m3_116) (va_up (va_up (va_up (va_up R 1 (upd m4_116 m0_116.toNatClampNeg (((x0 ||| (x1 <<< ((2 : Int32) &&& 31))) ||| 0) ||| (x3 <<< ((9 : Int32) &&& 31))))) 3 w_7) 4 w_8) 5 w_9) (va_up (va_up (va_up RJ 2 w_10) 6 w_11) 7 w_12)) H := hP
              have hD : va_D A (MW cy a J (va_up (va_up (va_up (va_up I 1 m0_116) 3 w_5) 12 w_6) 13 m3_116) (va_up (va_up (va_up (va_up R 1 (upd m4_116 m0_116.toNatClampNeg (((x0 ||| (x1 <<< ((2 : Int32) &&& 31))) ||| 0) ||| (x3 <<< ((9 : Int32) &&& 31))))) 3 w_7) 4 w_8) 5 w_9) (va_up (va_up (va_up RJ 2 w_10) 6 w_11) 7 w_12)) := hD
              refine lv_aload_n hx hb dX10_stone_251 rfl (lv_at hl 0 rfl) ?_
              refine lv_dup hx hb dX10_stone_252 rfl ?_
              refine va_get (D := D) (ci := 9) (v := .int m0_116) (C := RX10) (T := TX10) (N := 30) hx hb hts hi10 hown hK hP 0 rfl rfl 1 (by decide) hw0 (fun _ h9 => h9) rfl dX10_stone_253 ?_
              refine lv_iconst (v := 1) hx hb dX10_stone_256 (by decide) ?_
              refine lv_iadd hx hb dX10_stone_257 ?_
              refine va_put (D := D) (ci := 9) (v := .int (m0_116 + 1)) (ty := .int) (C := RX10) (T := TX10) (N := 30) hx hb hts hi10 tyX10 tyX10_ok nmX10 hown hK hP hD hS 0 rfl rfl 1 (by decide) hw0 (fun _ h9 => h9) rfl (by decide +kernel) rfl rfl (Nat.le_of_ble_eq_true rfl) dX10_stone_258 (fun H locs hP hD hS => ?_)
              have hP : va_P D vwCl (MW cy a J (va_up (va_up (va_up (va_up I 1 (m0_116 + 1)) 3 w_5) 12 w_6) 13 m3_116) (va_up (va_up (va_up (va_up R 1 (upd m4_116 m0_116.toNatClampNeg (((x0 ||| (x1 <<< ((2 : Int32) &&& 31))) ||| 0) ||| (x3 <<< ((9 : Int32) &&& 31))))) 3 w_7) 4 w_8) 5 w_9) (va_up (va_up (va_up RJ 2 w_10) 6 w_11) 7 w_12)) H := hP
              have hD : va_D A (MW cy a J (va_up (va_up (va_up (va_up I 1 (m0_116 + 1)) 3 w_5) 12 w_6) 13 m3_116) (va_up (va_up (va_up (va_up R 1 (upd m4_116 m0_116.toNatClampNeg (((x0 ||| (x1 <<< ((2 : Int32) &&& 31))) ||| 0) ||| (x3 <<< ((9 : Int32) &&& 31))))) 3 w_7) 4 w_8) 5 w_9) (va_up (va_up (va_up RJ 2 w_10) 6 w_11) 7 w_12)) := hD
              have hi_18 : vp_in (m0_116 + 1) 21 := in_succ (in_ne hm_m0_116 c_3)
              refine lv_aload_n hx hb dX10_stone_261 rfl (lv_at hl 0 rfl) ?_
              refine va_get (D := D) (ci := 9) (v := .int (m0_116 + 1)) (C := RX10) (T := TX10) (N := 30) hx hb hts hi10 hown hK hP 0 rfl rfl 1 (by decide) hw0 (fun _ h9 => h9) rfl dX10_stone_262 ?_
              refine lv_iconst (v := 1) hx hb dX10_stone_265 (by decide) ?_
              refine lv_isub hx hb dX10_stone_266 ?_
              exact wret_i hx hb hr hlocks (J, (va_up (va_up (va_up (va_up I 1 (m0_116 + 1)) 3 w_5) 12 w_6) 13 m3_116), (va_up (va_up (va_up (va_up R 1 (upd m4_116 m0_116.toNatClampNeg (((x0 ||| (x1 <<< ((2 : Int32) &&& 31))) ||| 0) ||| (x3 <<< ((9 : Int32) &&& 31))))) 3 w_7) 4 w_8) 5 w_9), (va_up (va_up (va_up RJ 2 w_10) 6 w_11) 7 w_12)) ⟨(m0_116 + 1), w_5, w_6, m3_116, (upd m4_116 m0_116.toNatClampNeg (((x0 ||| (x1 <<< ((2 : Int32) &&& 31))) ||| 0) ||| (x3 <<< ((9 : Int32) &&& 31)))), w_7, w_8, w_9, w_10, w_11, w_12, ⟨hi_18, hi_13, hi_14, hi_15, hi_16⟩, rfl⟩ hP hD hS dX10_stone_267
            · replace c_17 := bI_t c_17
              refine lv_sipush (v := 256) hx hb dX10_stone_236 (by decide) ?_
              refine lv_goto (tgt := 243) hx hb dX10_stone_239 (by decide) ?_
              refine lv_ior hx hb dX10_stone_243 ?_
              refine lv_iload hx hb dX10_stone_244 (lv_at hl 4 rfl) ?_
              refine lv_bipush (v := 9) hx hb dX10_stone_246 (by decide) ?_
              refine lv_ishl hx hb dX10_stone_248 ?_
              refine lv_ior hx hb dX10_stone_249 ?_
              refine va_iast hx hb hK hP hD hS 1 0 rfl rfl (in_ne hm_m0_116 c_3) dX10_stone_250 (fun H locs hP hD hS => ?_)
              have hP : va_P D vwCl (MW cy a J (va_up (va_up (va_up (va_up I 1 m0_116) 3 w_5) 12 w_6) 13 m3_116) (va_up (va_up (va_up (va_up R 1 (upd m4_116 m0_116.toNatClampNeg (((x0 ||| (x1 <<< ((2 : Int32) &&& 31))) ||| 256) ||| (x3 <<< ((9 : Int32) &&& 31))))) 3 w_7) 4 w_8) 5 w_9) (va_up (va_up (va_up RJ 2 w_10) 6 w_11) 7 w_12)) H := hP
              have hD : va_D A (MW cy a J (va_up (va_up (va_up (va_up I 1 m0_116) 3 w_5) 12 w_6) 13 m3_116) (va_up (va_up (va_up (va_up R 1 (upd m4_116 m0_116.toNatClampNeg (((x0 ||| (x1 <<< ((2 : Int32) &&& 31))) ||| 256) ||| (x3 <<< ((9 : Int32) &&& 31))))) 3 w_7) 4 w_8) 5 w_9) (va_up (va_up (va_up RJ 2 w_10) 6 w_11) 7 w_12)) := hD
              refine lv_aload_n hx hb dX10_stone_251 rfl (lv_at hl 0 rfl) ?_
              refine lv_dup hx hb dX10_stone_252 rfl ?_
              refine va_get (D := D) (ci := 9) (v := .int m0_116) (C := RX10) (T := TX10) (N := 30) hx hb hts hi10 hown hK hP 0 rfl rfl 1 (by decide) hw0 (fun _ h9 => h9) rfl dX10_stone_253 ?_
              refine lv_iconst (v := 1) hx hb dX10_stone_256 (by decide) ?_
              refine lv_iadd hx hb dX10_stone_257 ?_
              refine va_put (D := D) (ci := 9) (v := .int (m0_116 + 1)) (ty := .int) (C := RX10) (T := TX10) (N := 30) hx hb hts hi10 tyX10 tyX10_ok nmX10 hown hK hP hD hS 0 rfl rfl 1 (by decide) hw0 (fun _ h9 => h9) rfl (by decide +kernel) rfl rfl (Nat.le_of_ble_eq_true rfl) dX10_stone_258 (fun H locs hP hD hS => ?_)
              have hP : va_P D vwCl (MW cy a J (va_up (va_up (va_up (va_up I 1 (m0_116 + 1)) 3 w_5) 12 w_6) 13 m3_116) (va_up (va_up (va_up (va_up R 1 (upd m4_116 m0_116.toNatClampNeg (((x0 ||| (x1 <<< ((2 : Int32) &&& 31))) ||| 256) ||| (x3 <<< ((9 : Int32) &&& 31))))) 3 w_7) 4 w_8) 5 w_9) (va_up (va_up (va_up RJ 2 w_10) 6 w_11) 7 w_12)) H := hP
              have hD : va_D A (MW cy a J (va_up (va_up (va_up (va_up I 1 (m0_116 + 1)) 3 w_5) 12 w_6) 13 m3_116) (va_up (va_up (va_up (va_up R 1 (upd m4_116 m0_116.toNatClampNeg (((x0 ||| (x1 <<< ((2 : Int32) &&& 31))) ||| 256) ||| (x3 <<< ((9 : Int32) &&& 31))))) 3 w_7) 4 w_8) 5 w_9) (va_up (va_up (va_up RJ 2 w_10) 6 w_11) 7 w_12)) := hD
              have hi_19 : vp_in (m0_116 + 1) 21 := in_succ (in_ne hm_m0_116 c_3)
              refine lv_aload_n hx hb dX10_stone_261 rfl (lv_at hl 0 rfl) ?_
              refine va_get (D := D) (ci := 9) (v := .int (m0_116 + 1)) (C := RX10) (T := TX10) (N := 30) hx hb hts hi10 hown hK hP 0 rfl rfl 1 (by decide) hw0 (fun _ h9 => h9) rfl dX10_stone_262 ?_
              refine lv_iconst (v := 1) hx hb dX10_stone_265 (by decide) ?_
              refine lv_isub hx hb dX10_stone_266 ?_
              exact wret_i hx hb hr hlocks (J, (va_up (va_up (va_up (va_up I 1 (m0_116 + 1)) 3 w_5) 12 w_6) 13 m3_116), (va_up (va_up (va_up (va_up R 1 (upd m4_116 m0_116.toNatClampNeg (((x0 ||| (x1 <<< ((2 : Int32) &&& 31))) ||| 256) ||| (x3 <<< ((9 : Int32) &&& 31))))) 3 w_7) 4 w_8) 5 w_9), (va_up (va_up (va_up RJ 2 w_10) 6 w_11) 7 w_12)) ⟨(m0_116 + 1), w_5, w_6, m3_116, (upd m4_116 m0_116.toNatClampNeg (((x0 ||| (x1 <<< ((2 : Int32) &&& 31))) ||| 256) ||| (x3 <<< ((9 : Int32) &&& 31)))), w_7, w_8, w_9, w_10, w_11, w_12, ⟨hi_19, hi_13, hi_14, hi_15, hi_16⟩, rfl⟩ hP hD hS dX10_stone_267
          · refine lv_aload_n hx hb dX10_stone_208 rfl (lv_at hl 0 rfl) ?_
            refine lv_ldc (v := (-100005)) hx hb hown hw2 dX10_stone_209 ?_
            refine kM_i (As := [.int (-100005)]) (rest := []) (q0 := 0) ⟨hx, hb, hml, hown, hts⟩ (c_X10_finding l D cy a _ J (va_up (va_up (va_up (va_up I 1 m0_116) 3 m1_116) 12 m2_116) 13 m3_116) (va_up (va_up (va_up (va_up R 1 m4_116) 3 m5_116) 4 m6_116) 5 m7_116) (va_up (va_up (va_up RJ 2 m8_116) 6 m9_116) 7 m10_116) (-100005) ) (cwV 1 hts gX10_stone_X10_finding rfl rfl rfl (by decide +kernel) ⟨Nat.le_of_ble_eq_true rfl, Nat.le_of_ble_eq_true rfl⟩) hK hN hP hD hS hA rfl rfl rfl hl.1 rfl (Nat.le_of_ble_eq_true rfl) dX10_stone_211 ⟨Nat.le_of_ble_eq_true rfl, Nat.le_of_ble_eq_true rfl⟩ (fun r_20 u H locs hw hP hD hS => ?_)
            obtain ⟨rfl, rfl⟩ := hw
            have hP : va_P D vwCl (MW cy a J (va_up (va_up (va_up (va_up I 1 m0_116) 3 m1_116) 12 m2_116) 13 (m3_116 + 1)) (va_up (va_up (va_up (va_up R 1 m4_116) 3 m5_116) 4 m6_116) 5 m7_116) (va_up (va_up (va_up RJ 2 m8_116) 6 m9_116) 7 m10_116)) H := hP
            have hD : va_D A (MW cy a J (va_up (va_up (va_up (va_up I 1 m0_116) 3 m1_116) 12 m2_116) 13 (m3_116 + 1)) (va_up (va_up (va_up (va_up R 1 m4_116) 3 m5_116) 4 m6_116) 5 m7_116) (va_up (va_up (va_up RJ 2 m8_116) 6 m9_116) 7 m10_116)) := hD
            exact wret_i hx hb hr hlocks (J, (va_up (va_up (va_up (va_up I 1 m0_116) 3 m1_116) 12 m2_116) 13 (m3_116 + 1)), (va_up (va_up (va_up (va_up R 1 m4_116) 3 m5_116) 4 m6_116) 5 m7_116), (va_up (va_up (va_up RJ 2 m8_116) 6 m9_116) 7 m10_116)) ⟨m0_116, m1_116, m2_116, (m3_116 + 1), m4_116, m5_116, m6_116, m7_116, m8_116, m9_116, m10_116, ⟨hm_m0_116, hm_m1_116, hm_m2_116, hm_m5_116, hm_m7_116⟩, rfl⟩ hP hD hS dX10_stone_214
        · refine lv_aload_n hx hb dX10_stone_180 rfl (lv_at hl 0 rfl) ?_
          refine va_get (D := D) (ci := 9) (v := .long (J 0)) (C := RX10) (T := TX10) (N := 30) hx hb hts hi10 hown hK hP 0 rfl rfl 0 (by decide) hw3 (fun _ h9 => h9) rfl dX10_stone_181 ?_
          refine lv_iload_n hx hb dX10_stone_184 rfl (lv_at hl 2 rfl) ?_
          refine lv_iload_n hx hb dX10_stone_185 rfl (lv_at hl 3 rfl) ?_
          refine kS_i (As := [.long (J 0), .int x1, .int (bI x2)]) (rest := []) ⟨hx, hb, hml, hown, hts⟩ (c_X10_isAtEdge l (J 0) x1 x2) (va_cwS 3 hts gX10_stone_X10_isAtEdge rfl rfl rfl (by decide +kernel) ⟨Nat.le_of_ble_eq_true rfl, Nat.le_of_ble_eq_true rfl⟩) rfl hl.1 rfl (Nat.le_of_ble_eq_true rfl) dX10_stone_186 ⟨Nat.le_of_ble_eq_true rfl, Nat.le_of_ble_eq_true rfl⟩ ?_
          refine lv_if_ne (tgt := 199) hx hb dX10_stone_189 (by decide) (fun c_21 => ?_) (fun c_21 => ?_)
          · replace c_21 := bI_t c_21
            refine lv_aload_n hx hb dX10_stone_199 rfl (lv_at hl 0 rfl) ?_
            refine va_get (D := D) (ci := 9) (v := .int m0_116) (C := RX10) (T := TX10) (N := 30) hx hb hts hi10 hown hK hP 0 rfl rfl 1 (by decide) hw0 (fun _ h9 => h9) rfl dX10_stone_200 ?_
            refine lv_bipush (v := 20) hx hb dX10_stone_203 (by decide) ?_
            refine lv_icmp_ne (tgt := 215) hx hb dX10_stone_205 (by decide) (fun c_22 => ?_) (fun c_22 => ?_)
            · refine lv_aload_n hx hb dX10_stone_215 rfl (lv_at hl 0 rfl) ?_
              refine kM_v (As := []) (rest := []) (q0 := 0) ⟨hx, hb, hml, hown, hts⟩ (t_X10_keep l D cy a _ J (va_up (va_up (va_up (va_up I 1 m0_116) 3 m1_116) 12 m2_116) 13 m3_116) (va_up (va_up (va_up (va_up R 1 m4_116) 3 m5_116) 4 m6_116) 5 m7_116) (va_up (va_up (va_up RJ 2 m8_116) 6 m9_116) 7 m10_116)   ⟨hm_m0_116, hm_m1_116, hm_m2_116, hm_m5_116, hm_m7_116, hM.2.2.2.2.2⟩) (cwV 0 hts gX10_stone_X10_keep rfl rfl rfl (by decide +kernel) ⟨Nat.le_of_ble_eq_true rfl, Nat.le_of_ble_eq_true rfl⟩) hK hN hP hD hS hA rfl rfl rfl hl.1 rfl (Nat.le_of_ble_eq_true rfl) dX10_stone_216 ⟨Nat.le_of_ble_eq_true rfl, Nat.le_of_ble_eq_true rfl⟩ (fun u H locs hw hP hD hS => ?_)
              obtain ⟨w_24, w_25, w_26, w_27, w_28, w_29, w_30, w_31, ⟨hi_32, hi_33, hi_34, hi_35⟩, rfl⟩ := hw
              have hP : va_P D vwCl (MW cy a J (va_up (va_up (va_up (va_up I 1 m0_116) 3 w_24) 12 w_25) 13 m3_116) (va_up (va_up (va_up (va_up R 1 m4_116) 3 w_26) 4 w_27) 5 w_28) (va_up (va_up (va_up RJ 2 w_29) 6 w_30) 7 w_31)) H := hP
              have hD : va_D A (MW cy a J (va_up (va_up (va_up (va_up I 1 m0_116) 3 w_24) 12 w_25) 13 m3_116) (va_up (va_up (va_up (va_up R 1 m4_116) 3 w_26) 4 w_27) 5 w_28) (va_up (va_up (va_up RJ 2 w_29) 6 w_30) 7 w_31)) := hD
              refine lv_aload_n hx hb dX10_stone_219 rfl (lv_at hl 0 rfl) ?_
              refine va_get (D := D) (ci := 9) (v := .ref (a 1)) (C := RX10) (T := TX10) (N := 30) hx hb hts hi10 hown hK hP 0 rfl rfl 2 (by decide) hw1 (fun _ h9 => h9) rfl dX10_stone_220 ?_
              refine lv_aload_n hx hb dX10_stone_223 rfl (lv_at hl 0 rfl) ?_
              refine va_get (D := D) (ci := 9) (v := .int m0_116) (C := RX10) (T := TX10) (N := 30) hx hb hts hi10 hown hK hP 0 rfl rfl 1 (by decide) hw0 (fun _ h9 => h9) rfl dX10_stone_224 ?_
              refine lv_iload_n hx hb dX10_stone_227 rfl (lv_at hl 1 rfl) ?_
              refine lv_iload_n hx hb dX10_stone_228 rfl (lv_at hl 2 rfl) ?_
              refine lv_iconst (v := 2) hx hb dX10_stone_229 (by decide) ?_
              refine lv_ishl hx hb dX10_stone_230 ?_
              refine lv_ior hx hb dX10_stone_231 ?_
              refine lv_iload_n hx hb dX10_stone_232 rfl (lv_at hl 3 rfl) ?_
              refine lv_if_eq (tgt := 242) hx hb dX10_stone_233 (by decide) (fun c_36 => ?_) (fun c_36 => ?_)
              · replace c_36 := bI_f c_36
                refine lv_iconst (v := 0) hx hb dX10_stone_242 (by decide) ?_
                refine lv_ior hx hb dX10_stone_243 ?_
                refine lv_iload hx hb dX10_stone_244 (lv_at hl 4 rfl) ?_
                refine lv_bipush (v := 9) hx hb dX10_stone_246 (by decide) ?_
                refine lv_ishl hx hb dX10_stone_248 ?_
                refine lv_ior hx hb dX10_stone_249 ?_
                refine va_iast hx hb hK hP hD hS 1 0 rfl rfl (in_ne hm_m0_116 c_22) dX10_stone_250 (fun H locs hP hD hS => ?_)
                have hP : va_P D vwCl (MW cy a J (va_up (va_up (va_up (va_up I 1 m0_116) 3 w_24) 12 w_25) 13 m3_116) (va_up (va_up (va_up (va_up R 1 (upd m4_116 m0_116.toNatClampNeg (((x0 ||| (x1 <<< ((2 : Int32) &&& 31))) ||| 0) ||| (x3 <<< ((9 : Int32) &&& 31))))) 3 w_26) 4 w_27) 5 w_28) (va_up (va_up (va_up RJ 2 w_29) 6 w_30) 7 w_31)) H := hP
                have hD : va_D A (MW cy a J (va_up (va_up (va_up (va_up I 1 m0_116) 3 w_24) 12 w_25) 13 m3_116) (va_up (va_up (va_up (va_up R 1 (upd m4_116 m0_116.toNatClampNeg (((x0 ||| (x1 <<< ((2 : Int32) &&& 31))) ||| 0) ||| (x3 <<< ((9 : Int32) &&& 31))))) 3 w_26) 4 w_27) 5 w_28) (va_up (va_up (va_up RJ 2 w_29) 6 w_30) 7 w_31)) := hD
                refine lv_aload_n hx hb dX10_stone_251 rfl (lv_at hl 0 rfl) ?_
                refine lv_dup hx hb dX10_stone_252 rfl ?_
                refine va_get (D := D) (ci := 9) (v := .int m0_116) (C := RX10) (T := TX10) (N := 30) hx hb hts hi10 hown hK hP 0 rfl rfl 1 (by decide) hw0 (fun _ h9 => h9) rfl dX10_stone_253 ?_
                refine lv_iconst (v := 1) hx hb dX10_stone_256 (by decide) ?_
                refine lv_iadd hx hb dX10_stone_257 ?_
                refine va_put (D := D) (ci := 9) (v := .int (m0_116 + 1)) (ty := .int) (C := RX10) (T := TX10) (N := 30) hx hb hts hi10 tyX10 tyX10_ok nmX10 hown hK hP hD hS 0 rfl rfl 1 (by decide) hw0 (fun _ h9 => h9) rfl (by decide +kernel) rfl rfl (Nat.le_of_ble_eq_true rfl) dX10_stone_258 (fun H locs hP hD hS => ?_)
                have hP : va_P D vwCl (MW cy a J (va_up (va_up (va_up (va_up I 1 (m0_116 + 1)) 3 w_24) 12 w_25) 13 m3_116) (va_up (va_up (va_up (va_up R 1 (upd m4_116 m0_116.toNatClampNeg (((x0 ||| (x1 <<< ((2 : Int32) &&& 31))) ||| 0) ||| (x3 <<< ((9 : Int32) &&& 31))))) 3 w_26) 4 w_27) 5 w_28) (va_up (va_up (va_up RJ 2 w_29) 6 w_30) 7 w_31)) H := hP
                have hD : va_D A (MW cy a J (va_up (va_up (va_up (va_up I 1 (m0_116 + 1)) 3 w_24) 12 w_25) 13 m3_116) (va_up (va_up (va_up (va_up R 1 (upd m4_116 m0_116.toNatClampNeg (((x0 ||| (x1 <<< ((2 : Int32) &&& 31))) ||| 0) ||| (x3 <<< ((9 : Int32) &&& 31))))) 3 w_26) 4 w_27) 5 w_28) (va_up (va_up (va_up RJ 2 w_29) 6 w_30) 7 w_31)) := hD
                have hi_37 : vp_in (m0_116 + 1) 21 := in_succ (in_ne hm_m0_116 c_22)
                refine lv_aload_n hx hb dX10_stone_261 rfl (lv_at hl 0 rfl) ?_
                refine va_get (D := D) (ci := 9) (v := .int (m0_116 + 1)) (C := RX10) (T := TX10) (N := 30) hx hb hts hi10 hown hK hP 0 rfl rfl 1 (by decide) hw0 (fun _ h9 => h9) rfl dX10_stone_262 ?_
                refine lv_iconst (v := 1) hx hb dX10_stone_265 (by decide) ?_
                refine lv_isub hx hb dX10_stone_266 ?_
                exact wret_i hx hb hr hlocks (J, (va_up (va_up (va_up (va_up I 1 (m0_116 + 1)) 3 w_24) 12 w_25) 13 m3_116), (va_up (va_up (va_up (va_up R 1 (upd m4_116 m0_116.toNatClampNeg (((x0 ||| (x1 <<< ((2 : Int32) &&& 31))) ||| 0) ||| (x3 <<< ((9 : Int32) &&& 31))))) 3 w_26) 4 w_27) 5 w_28), (va_up (va_up (va_up RJ 2 w_29) 6 w_30) 7 w_31)) ⟨(m0_116 + 1), w_24, w_25, m3_116, (upd m4_116 m0_116.toNatClampNeg (((x0 ||| (x1 <<< ((2 : Int32) &&& 31))) ||| 0) ||| (x3 <<< ((9 : Int32) &&& 31)))), w_26, w_27, w_28, w_29, w_30, w_31, ⟨hi_37, hi_32, hi_33, hi_34, hi_35⟩, rfl⟩ hP hD hS dX10_stone_267
              · replace c_36 := bI_t c_36
                refine lv_sipush (v := 256) hx hb dX10_stone_236 (by decide) ?_
                refine lv_goto (tgt := 243) hx hb dX10_stone_239 (by decide) ?_
                refine lv_ior hx hb dX10_stone_243 ?_
                refine lv_iload hx hb dX10_stone_244 (lv_at hl 4 rfl) ?_
                refine lv_bipush (v := 9) hx hb dX10_stone_246 (by decide) ?_
                refine lv_ishl hx hb dX10_stone_248 ?_
                refine lv_ior hx hb dX10_stone_249 ?_
                refine va_iast hx hb hK hP hD hS 1 0 rfl rfl (in_ne hm_m0_116 c_22) dX10_stone_250 (fun H locs hP hD hS => ?_)
                have hP : va_P D vwCl (MW cy a J (va_up (va_up (va_up (va_up I 1 m0_116) 3 w_24) 12 w_25) 13 m3_116) (va_up (va_up (va_up (va_up R 1 (upd m4_116 m0_116.toNatClampNeg (((x0 ||| (x1 <<< ((2 : Int32) &&& 31))) ||| 256) ||| (x3 <<< ((9 : Int32) &&& 31))))) 3 w_26) 4 w_27) 5 w_28) (va_up (va_up (va_up RJ 2 w_29) 6 w_30) 7 w_31)) H := hP
                have hD : va_D A (MW cy a J (va_up (va_up (va_up (va_up I 1 m0_116) 3 w_24) 12 w_25) 13 m3_116) (va_up (va_up (va_up (va_up R 1 (upd m4_116 m0_116.toNatClampNeg (((x0 ||| (x1 <<< ((2 : Int32) &&& 31))) ||| 256) ||| (x3 <<< ((9 : Int32) &&& 31))))) 3 w_26) 4 w_27) 5 w_28) (va_up (va_up (va_up RJ 2 w_29) 6 w_30) 7 w_31)) := hD
                refine lv_aload_n hx hb dX10_stone_251 rfl (lv_at hl 0 rfl) ?_
                refine lv_dup hx hb dX10_stone_252 rfl ?_
                refine va_get (D := D) (ci := 9) (v := .int m0_116) (C := RX10) (T := TX10) (N := 30) hx hb hts hi10 hown hK hP 0 rfl rfl 1 (by decide) hw0 (fun _ h9 => h9) rfl dX10_stone_253 ?_
                refine lv_iconst (v := 1) hx hb dX10_stone_256 (by decide) ?_
                refine lv_iadd hx hb dX10_stone_257 ?_
                refine va_put (D := D) (ci := 9) (v := .int (m0_116 + 1)) (ty := .int) (C := RX10) (T := TX10) (N := 30) hx hb hts hi10 tyX10 tyX10_ok nmX10 hown hK hP hD hS 0 rfl rfl 1 (by decide) hw0 (fun _ h9 => h9) rfl (by decide +kernel) rfl rfl (Nat.le_of_ble_eq_true rfl) dX10_stone_258 (fun H locs hP hD hS => ?_)
                have hP : va_P D vwCl (MW cy a J (va_up (va_up (va_up (va_up I 1 (m0_116 + 1)) 3 w_24) 12 w_25) 13 m3_116) (va_up (va_up (va_up (va_up R 1 (upd m4_116 m0_116.toNatClampNeg (((x0 ||| (x1 <<< ((2 : Int32) &&& 31))) ||| 256) ||| (x3 <<< ((9 : Int32) &&& 31))))) 3 w_26) 4 w_27) 5 w_28) (va_up (va_up (va_up RJ 2 w_29) 6 w_30) 7 w_31)) H := hP
                have hD : va_D A (MW cy a J (va_up (va_up (va_up (va_up I 1 (m0_116 + 1)) 3 w_24) 12 w_25) 13 m3_116) (va_up (va_up (va_up (va_up R 1 (upd m4_116 m0_116.toNatClampNeg (((x0 ||| (x1 <<< ((2 : Int32) &&& 31))) ||| 256) ||| (x3 <<< ((9 : Int32) &&& 31))))) 3 w_26) 4 w_27) 5 w_28) (va_up (va_up (va_up RJ 2 w_29) 6 w_30) 7 w_31)) := hD
                have hi_38 : vp_in (m0_116 + 1) 21 := in_succ (in_ne hm_m0_116 c_22)
                refine lv_aload_n hx hb dX10_stone_261 rfl (lv_at hl 0 rfl) ?_
                refine va_get (D := D) (ci := 9) (v := .int (m0_116 + 1)) (C := RX10) (T := TX10) (N := 30) hx hb hts hi10 hown hK hP 0 rfl rfl 1 (by decide) hw0 (fun _ h9 => h9) rfl dX10_stone_262 ?_
                refine lv_iconst (v := 1) hx hb dX10_stone_265 (by decide) ?_
                refine lv_isub hx hb dX10_stone_266 ?_
                exact wret_i hx hb hr hlocks (J, (va_up (va_up (va_up (va_up I 1 (m0_116 + 1)) 3 w_24) 12 w_25) 13 m3_116), (va_up (va_up (va_up (va_up R 1 (upd m4_116 m0_116.toNatClampNeg (((x0 ||| (x1 <<< ((2 : Int32) &&& 31))) ||| 256) ||| (x3 <<< ((9 : Int32) &&& 31))))) 3 w_26) 4 w_27) 5 w_28), (va_up (va_up (va_up RJ 2 w_29) 6 w_30) 7 w_31)) ⟨(m0_116 + 1), w_24, w_25, m3_116, (upd m4_116 m0_116.toNatClampNeg (((x0 ||| (x1 <<< ((2 : Int32) &&& 31))) ||| 256) ||| (x3 <<< ((9 : Int32) &&& 31)))), w_26, w_27, w_28, w_29, w_30, w_31, ⟨hi_38, hi_32, hi_33, hi_34, hi_35⟩, rfl⟩ hP hD hS dX10_stone_267
            · refine lv_aload_n hx hb dX10_stone_208 rfl (lv_at hl 0 rfl) ?_
              refine lv_ldc (v := (-100005)) hx hb hown hw2 dX10_stone_209 ?_
              refine kM_i (As := [.int (-100005)]) (rest := []) (q0 := 0) ⟨hx, hb, hml, hown, hts⟩ (c_X10_finding l D cy a _ J (va_up (va_up (va_up (va_up I 1 m0_116) 3 m1_116) 12 m2_116) 13 m3_116) (va_up (va_up (va_up (va_up R 1 m4_116) 3 m5_116) 4 m6_116) 5 m7_116) (va_up (va_up (va_up RJ 2 m8_116) 6 m9_116) 7 m10_116) (-100005) ) (cwV 1 hts gX10_stone_X10_finding rfl rfl rfl (by decide +kernel) ⟨Nat.le_of_ble_eq_true rfl, Nat.le_of_ble_eq_true rfl⟩) hK hN hP hD hS hA rfl rfl rfl hl.1 rfl (Nat.le_of_ble_eq_true rfl) dX10_stone_211 ⟨Nat.le_of_ble_eq_true rfl, Nat.le_of_ble_eq_true rfl⟩ (fun r_39 u H locs hw hP hD hS => ?_)
              obtain ⟨rfl, rfl⟩ := hw
              have hP : va_P D vwCl (MW cy a J (va_up (va_up (va_up (va_up I 1 m0_116) 3 m1_116) 12 m2_116) 13 (m3_116 + 1)) (va_up (va_up (va_up (va_up R 1 m4_116) 3 m5_116) 4 m6_116) 5 m7_116) (va_up (va_up (va_up RJ 2 m8_116) 6 m9_116) 7 m10_116)) H := hP
              have hD : va_D A (MW cy a J (va_up (va_up (va_up (va_up I 1 m0_116) 3 m1_116) 12 m2_116) 13 (m3_116 + 1)) (va_up (va_up (va_up (va_up R 1 m4_116) 3 m5_116) 4 m6_116) 5 m7_116) (va_up (va_up (va_up RJ 2 m8_116) 6 m9_116) 7 m10_116)) := hD
              exact wret_i hx hb hr hlocks (J, (va_up (va_up (va_up (va_up I 1 m0_116) 3 m1_116) 12 m2_116) 13 (m3_116 + 1)), (va_up (va_up (va_up (va_up R 1 m4_116) 3 m5_116) 4 m6_116) 5 m7_116), (va_up (va_up (va_up RJ 2 m8_116) 6 m9_116) 7 m10_116)) ⟨m0_116, m1_116, m2_116, (m3_116 + 1), m4_116, m5_116, m6_116, m7_116, m8_116, m9_116, m10_116, ⟨hm_m0_116, hm_m1_116, hm_m2_116, hm_m5_116, hm_m7_116⟩, rfl⟩ hP hD hS dX10_stone_214
          · replace c_21 := bI_f c_21
            refine lv_aload_n hx hb dX10_stone_192 rfl (lv_at hl 0 rfl) ?_
            refine lv_ldc (v := (-100004)) hx hb hown hw4 dX10_stone_193 ?_
            refine kM_i (As := [.int (-100004)]) (rest := []) (q0 := 0) ⟨hx, hb, hml, hown, hts⟩ (c_X10_finding l D cy a _ J (va_up (va_up (va_up (va_up I 1 m0_116) 3 m1_116) 12 m2_116) 13 m3_116) (va_up (va_up (va_up (va_up R 1 m4_116) 3 m5_116) 4 m6_116) 5 m7_116) (va_up (va_up (va_up RJ 2 m8_116) 6 m9_116) 7 m10_116) (-100004) ) (cwV 1 hts gX10_stone_X10_finding rfl rfl rfl (by decide +kernel) ⟨Nat.le_of_ble_eq_true rfl, Nat.le_of_ble_eq_true rfl⟩) hK hN hP hD hS hA rfl rfl rfl hl.1 rfl (Nat.le_of_ble_eq_true rfl) dX10_stone_195 ⟨Nat.le_of_ble_eq_true rfl, Nat.le_of_ble_eq_true rfl⟩ (fun r_40 u H locs hw hP hD hS => ?_)
            obtain ⟨rfl, rfl⟩ := hw
            have hP : va_P D vwCl (MW cy a J (va_up (va_up (va_up (va_up I 1 m0_116) 3 m1_116) 12 m2_116) 13 (m3_116 + 1)) (va_up (va_up (va_up (va_up R 1 m4_116) 3 m5_116) 4 m6_116) 5 m7_116) (va_up (va_up (va_up RJ 2 m8_116) 6 m9_116) 7 m10_116)) H := hP
            have hD : va_D A (MW cy a J (va_up (va_up (va_up (va_up I 1 m0_116) 3 m1_116) 12 m2_116) 13 (m3_116 + 1)) (va_up (va_up (va_up (va_up R 1 m4_116) 3 m5_116) 4 m6_116) 5 m7_116) (va_up (va_up (va_up RJ 2 m8_116) 6 m9_116) 7 m10_116)) := hD
            exact wret_i hx hb hr hlocks (J, (va_up (va_up (va_up (va_up I 1 m0_116) 3 m1_116) 12 m2_116) 13 (m3_116 + 1)), (va_up (va_up (va_up (va_up R 1 m4_116) 3 m5_116) 4 m6_116) 5 m7_116), (va_up (va_up (va_up RJ 2 m8_116) 6 m9_116) 7 m10_116)) ⟨m0_116, m1_116, m2_116, (m3_116 + 1), m4_116, m5_116, m6_116, m7_116, m8_116, m9_116, m10_116, ⟨hm_m0_116, hm_m1_116, hm_m2_116, hm_m5_116, hm_m7_116⟩, rfl⟩ hP hD hS dX10_stone_198
      · have hlt := ctr_lt (N := ns) (by omega) hi (by rw [← hI1, ← hst]; exact c_1)
        refine lv_iload hx hb dX10_stone_125 (lv_at hl 6 rfl) ?_
        refine lv_if_eq (tgt := 175) hx hb dX10_stone_127 (by decide) (fun c_41 => ?_) (fun c_41 => ?_)
        · refine lv_iload_n hx hb dX10_stone_175 rfl (lv_at hl 1 rfl) ?_
          refine lv_iconst (v := 3) hx hb dX10_stone_176 (by decide) ?_
          refine lv_icmp_ne (tgt := 199) hx hb dX10_stone_177 (by decide) (fun c_42 => ?_) (fun c_42 => ?_)
          · refine lv_aload_n hx hb dX10_stone_199 rfl (lv_at hl 0 rfl) ?_
            refine va_get (D := D) (ci := 9) (v := .int m0_116) (C := RX10) (T := TX10) (N := 30) hx hb hts hi10 hown hK hP 0 rfl rfl 1 (by decide) hw0 (fun _ h9 => h9) rfl dX10_stone_200 ?_
            refine lv_bipush (v := 20) hx hb dX10_stone_203 (by decide) ?_
            refine lv_icmp_ne (tgt := 215) hx hb dX10_stone_205 (by decide) (fun c_43 => ?_) (fun c_43 => ?_)
            · refine lv_aload_n hx hb dX10_stone_215 rfl (lv_at hl 0 rfl) ?_
              refine kM_v (As := []) (rest := []) (q0 := 0) ⟨hx, hb, hml, hown, hts⟩ (t_X10_keep l D cy a _ J (va_up (va_up (va_up (va_up I 1 m0_116) 3 m1_116) 12 m2_116) 13 m3_116) (va_up (va_up (va_up (va_up R 1 m4_116) 3 m5_116) 4 m6_116) 5 m7_116) (va_up (va_up (va_up RJ 2 m8_116) 6 m9_116) 7 m10_116)   ⟨hm_m0_116, hm_m1_116, hm_m2_116, hm_m5_116, hm_m7_116, hM.2.2.2.2.2⟩) (cwV 0 hts gX10_stone_X10_keep rfl rfl rfl (by decide +kernel) ⟨Nat.le_of_ble_eq_true rfl, Nat.le_of_ble_eq_true rfl⟩) hK hN hP hD hS hA rfl rfl rfl hl.1 rfl (Nat.le_of_ble_eq_true rfl) dX10_stone_216 ⟨Nat.le_of_ble_eq_true rfl, Nat.le_of_ble_eq_true rfl⟩ (fun u H locs hw hP hD hS => ?_)
              obtain ⟨w_45, w_46, w_47, w_48, w_49, w_50, w_51, w_52, ⟨hi_53, hi_54, hi_55, hi_56⟩, rfl⟩ := hw
              have hP : va_P D vwCl (MW cy a J (va_up (va_up (va_up (va_up I 1 m0_116) 3 w_45) 12 w_46) 13 m3_116) (va_up (va_up (va_up (va_up R 1 m4_116) 3 w_47) 4 w_48) 5 w_49) (va_up (va_up (va_up RJ 2 w_50) 6 w_51) 7 w_52)) H := hP
              have hD : va_D A (MW cy a J (va_up (va_up (va_up (va_up I 1 m0_116) 3 w_45) 12 w_46) 13 m3_116) (va_up (va_up (va_up (va_up R 1 m4_116) 3 w_47) 4 w_48) 5 w_49) (va_up (va_up (va_up RJ 2 w_50) 6 w_51) 7 w_52)) := hD
              refine lv_aload_n hx hb dX10_stone_219 rfl (lv_at hl 0 rfl) ?_
              refine va_get (D := D) (ci := 9) (v := .ref (a 1)) (C := RX10) (T := TX10) (N := 30) hx hb hts hi10 hown hK hP 0 rfl rfl 2 (by decide) hw1 (fun _ h9 => h9) rfl dX10_stone_220 ?_
              refine lv_aload_n hx hb dX10_stone_223 rfl (lv_at hl 0 rfl) ?_
              refine va_get (D := D) (ci := 9) (v := .int m0_116) (C := RX10) (T := TX10) (N := 30) hx hb hts hi10 hown hK hP 0 rfl rfl 1 (by decide) hw0 (fun _ h9 => h9) rfl dX10_stone_224 ?_
              refine lv_iload_n hx hb dX10_stone_227 rfl (lv_at hl 1 rfl) ?_
              refine lv_iload_n hx hb dX10_stone_228 rfl (lv_at hl 2 rfl) ?_
              refine lv_iconst (v := 2) hx hb dX10_stone_229 (by decide) ?_
              refine lv_ishl hx hb dX10_stone_230 ?_
              refine lv_ior hx hb dX10_stone_231 ?_
              refine lv_iload_n hx hb dX10_stone_232 rfl (lv_at hl 3 rfl) ?_
              refine lv_if_eq (tgt := 242) hx hb dX10_stone_233 (by decide) (fun c_57 => ?_) (fun c_57 => ?_)
              · replace c_57 := bI_f c_57
                refine lv_iconst (v := 0) hx hb dX10_stone_242 (by decide) ?_
                refine lv_ior hx hb dX10_stone_243 ?_
                refine lv_iload hx hb dX10_stone_244 (lv_at hl 4 rfl) ?_
                refine lv_bipush (v := 9) hx hb dX10_stone_246 (by decide) ?_
                refine lv_ishl hx hb dX10_stone_248 ?_
                refine lv_ior hx hb dX10_stone_249 ?_
                refine va_iast hx hb hK hP hD hS 1 0 rfl rfl (in_ne hm_m0_116 c_43) dX10_stone_250 (fun H locs hP hD hS => ?_)
                have hP : va_P D vwCl (MW cy a J (va_up (va_up (va_up (va_up I 1 m0_116) 3 w_45) 12 w_46) 13 m3_116) (va_up (va_up (va_up (va_up R 1 (upd m4_116 m0_116.toNatClampNeg (((x0 ||| (x1 <<< ((2 : Int32) &&& 31))) ||| 0) ||| (x3 <<< ((9 : Int32) &&& 31))))) 3 w_47) 4 w_48) 5 w_49) (va_up (va_up (va_up RJ 2 w_50) 6 w_51) 7 w_52)) H := hP
                have hD : va_D A (MW cy a J (va_up (va_up (va_up (va_up I 1 m0_116) 3 w_45) 12 w_46) 13 m3_116) (va_up (va_up (va_up (va_up R 1 (upd m4_116 m0_116.toNatClampNeg (((x0 ||| (x1 <<< ((2 : Int32) &&& 31))) ||| 0) ||| (x3 <<< ((9 : Int32) &&& 31))))) 3 w_47) 4 w_48) 5 w_49) (va_up (va_up (va_up RJ 2 w_50) 6 w_51) 7 w_52)) := hD
                refine lv_aload_n hx hb dX10_stone_251 rfl (lv_at hl 0 rfl) ?_
                refine lv_dup hx hb dX10_stone_252 rfl ?_
                refine va_get (D := D) (ci := 9) (v := .int m0_116) (C := RX10) (T := TX10) (N := 30) hx hb hts hi10 hown hK hP 0 rfl rfl 1 (by decide) hw0 (fun _ h9 => h9) rfl dX10_stone_253 ?_
                refine lv_iconst (v := 1) hx hb dX10_stone_256 (by decide) ?_
                refine lv_iadd hx hb dX10_stone_257 ?_
                refine va_put (D := D) (ci := 9) (v := .int (m0_116 + 1)) (ty := .int) (C := RX10) (T := TX10) (N := 30) hx hb hts hi10 tyX10 tyX10_ok nmX10 hown hK hP hD hS 0 rfl rfl 1 (by decide) hw0 (fun _ h9 => h9) rfl (by decide +kernel) rfl rfl (Nat.le_of_ble_eq_true rfl) dX10_stone_258 (fun H locs hP hD hS => ?_)
                have hP : va_P D vwCl (MW cy a J (va_up (va_up (va_up (va_up I 1 (m0_116 + 1)) 3 w_45) 12 w_46) 13 m3_116) (va_up (va_up (va_up (va_up R 1 (upd m4_116 m0_116.toNatClampNeg (((x0 ||| (x1 <<< ((2 : Int32) &&& 31))) ||| 0) ||| (x3 <<< ((9 : Int32) &&& 31))))) 3 w_47) 4 w_48) 5 w_49) (va_up (va_up (va_up RJ 2 w_50) 6 w_51) 7 w_52)) H := hP
                have hD : va_D A (MW cy a J (va_up (va_up (va_up (va_up I 1 (m0_116 + 1)) 3 w_45) 12 w_46) 13 m3_116) (va_up (va_up (va_up (va_up R 1 (upd m4_116 m0_116.toNatClampNeg (((x0 ||| (x1 <<< ((2 : Int32) &&& 31))) ||| 0) ||| (x3 <<< ((9 : Int32) &&& 31))))) 3 w_47) 4 w_48) 5 w_49) (va_up (va_up (va_up RJ 2 w_50) 6 w_51) 7 w_52)) := hD
                have hi_58 : vp_in (m0_116 + 1) 21 := in_succ (in_ne hm_m0_116 c_43)
                refine lv_aload_n hx hb dX10_stone_261 rfl (lv_at hl 0 rfl) ?_
                refine va_get (D := D) (ci := 9) (v := .int (m0_116 + 1)) (C := RX10) (T := TX10) (N := 30) hx hb hts hi10 hown hK hP 0 rfl rfl 1 (by decide) hw0 (fun _ h9 => h9) rfl dX10_stone_262 ?_
                refine lv_iconst (v := 1) hx hb dX10_stone_265 (by decide) ?_
                refine lv_isub hx hb dX10_stone_266 ?_
                exact wret_i hx hb hr hlocks (J, (va_up (va_up (va_up (va_up I 1 (m0_116 + 1)) 3 w_45) 12 w_46) 13 m3_116), (va_up (va_up (va_up (va_up R 1 (upd m4_116 m0_116.toNatClampNeg (((x0 ||| (x1 <<< ((2 : Int32) &&& 31))) ||| 0) ||| (x3 <<< ((9 : Int32) &&& 31))))) 3 w_47) 4 w_48) 5 w_49), (va_up (va_up (va_up RJ 2 w_50) 6 w_51) 7 w_52)) ⟨(m0_116 + 1), w_45, w_46, m3_116, (upd m4_116 m0_116.toNatClampNeg (((x0 ||| (x1 <<< ((2 : Int32) &&& 31))) ||| 0) ||| (x3 <<< ((9 : Int32) &&& 31)))), w_47, w_48, w_49, w_50, w_51, w_52, ⟨hi_58, hi_53, hi_54, hi_55, hi_56⟩, rfl⟩ hP hD hS dX10_stone_267
              · replace c_57 := bI_t c_57
                refine lv_sipush (v := 256) hx hb dX10_stone_236 (by decide) ?_
                refine lv_goto (tgt := 243) hx hb dX10_stone_239 (by decide) ?_
                refine lv_ior hx hb dX10_stone_243 ?_
                refine lv_iload hx hb dX10_stone_244 (lv_at hl 4 rfl) ?_
                refine lv_bipush (v := 9) hx hb dX10_stone_246 (by decide) ?_
                refine lv_ishl hx hb dX10_stone_248 ?_
                refine lv_ior hx hb dX10_stone_249 ?_
                refine va_iast hx hb hK hP hD hS 1 0 rfl rfl (in_ne hm_m0_116 c_43) dX10_stone_250 (fun H locs hP hD hS => ?_)
                have hP : va_P D vwCl (MW cy a J (va_up (va_up (va_up (va_up I 1 m0_116) 3 w_45) 12 w_46) 13 m3_116) (va_up (va_up (va_up (va_up R 1 (upd m4_116 m0_116.toNatClampNeg (((x0 ||| (x1 <<< ((2 : Int32) &&& 31))) ||| 256) ||| (x3 <<< ((9 : Int32) &&& 31))))) 3 w_47) 4 w_48) 5 w_49) (va_up (va_up (va_up RJ 2 w_50) 6 w_51) 7 w_52)) H := hP
                have hD : va_D A (MW cy a J (va_up (va_up (va_up (va_up I 1 m0_116) 3 w_45) 12 w_46) 13 m3_116) (va_up (va_up (va_up (va_up R 1 (upd m4_116 m0_116.toNatClampNeg (((x0 ||| (x1 <<< ((2 : Int32) &&& 31))) ||| 256) ||| (x3 <<< ((9 : Int32) &&& 31))))) 3 w_47) 4 w_48) 5 w_49) (va_up (va_up (va_up RJ 2 w_50) 6 w_51) 7 w_52)) := hD
                refine lv_aload_n hx hb dX10_stone_251 rfl (lv_at hl 0 rfl) ?_
                refine lv_dup hx hb dX10_stone_252 rfl ?_
                refine va_get (D := D) (ci := 9) (v := .int m0_116) (C := RX10) (T := TX10) (N := 30) hx hb hts hi10 hown hK hP 0 rfl rfl 1 (by decide) hw0 (fun _ h9 => h9) rfl dX10_stone_253 ?_
                refine lv_iconst (v := 1) hx hb dX10_stone_256 (by decide) ?_
                refine lv_iadd hx hb dX10_stone_257 ?_
                refine va_put (D := D) (ci := 9) (v := .int (m0_116 + 1)) (ty := .int) (C := RX10) (T := TX10) (N := 30) hx hb hts hi10 tyX10 tyX10_ok nmX10 hown hK hP hD hS 0 rfl rfl 1 (by decide) hw0 (fun _ h9 => h9) rfl (by decide +kernel) rfl rfl (Nat.le_of_ble_eq_true rfl) dX10_stone_258 (fun H locs hP hD hS => ?_)
                have hP : va_P D vwCl (MW cy a J (va_up (va_up (va_up (va_up I 1 (m0_116 + 1)) 3 w_45) 12 w_46) 13 m3_116) (va_up (va_up (va_up (va_up R 1 (upd m4_116 m0_116.toNatClampNeg (((x0 ||| (x1 <<< ((2 : Int32) &&& 31))) ||| 256) ||| (x3 <<< ((9 : Int32) &&& 31))))) 3 w_47) 4 w_48) 5 w_49) (va_up (va_up (va_up RJ 2 w_50) 6 w_51) 7 w_52)) H := hP
                have hD : va_D A (MW cy a J (va_up (va_up (va_up (va_up I 1 (m0_116 + 1)) 3 w_45) 12 w_46) 13 m3_116) (va_up (va_up (va_up (va_up R 1 (upd m4_116 m0_116.toNatClampNeg (((x0 ||| (x1 <<< ((2 : Int32) &&& 31))) ||| 256) ||| (x3 <<< ((9 : Int32) &&& 31))))) 3 w_47) 4 w_48) 5 w_49) (va_up (va_up (va_up RJ 2 w_50) 6 w_51) 7 w_52)) := hD
                have hi_59 : vp_in (m0_116 + 1) 21 := in_succ (in_ne hm_m0_116 c_43)
                refine lv_aload_n hx hb dX10_stone_261 rfl (lv_at hl 0 rfl) ?_
                refine va_get (D := D) (ci := 9) (v := .int (m0_116 + 1)) (C := RX10) (T := TX10) (N := 30) hx hb hts hi10 hown hK hP 0 rfl rfl 1 (by decide) hw0 (fun _ h9 => h9) rfl dX10_stone_262 ?_
                refine lv_iconst (v := 1) hx hb dX10_stone_265 (by decide) ?_
                refine lv_isub hx hb dX10_stone_266 ?_
                exact wret_i hx hb hr hlocks (J, (va_up (va_up (va_up (va_up I 1 (m0_116 + 1)) 3 w_45) 12 w_46) 13 m3_116), (va_up (va_up (va_up (va_up R 1 (upd m4_116 m0_116.toNatClampNeg (((x0 ||| (x1 <<< ((2 : Int32) &&& 31))) ||| 256) ||| (x3 <<< ((9 : Int32) &&& 31))))) 3 w_47) 4 w_48) 5 w_49), (va_up (va_up (va_up RJ 2 w_50) 6 w_51) 7 w_52)) ⟨(m0_116 + 1), w_45, w_46, m3_116, (upd m4_116 m0_116.toNatClampNeg (((x0 ||| (x1 <<< ((2 : Int32) &&& 31))) ||| 256) ||| (x3 <<< ((9 : Int32) &&& 31)))), w_47, w_48, w_49, w_50, w_51, w_52, ⟨hi_59, hi_53, hi_54, hi_55, hi_56⟩, rfl⟩ hP hD hS dX10_stone_267
            · refine lv_aload_n hx hb dX10_stone_208 rfl (lv_at hl 0 rfl) ?_
              refine lv_ldc (v := (-100005)) hx hb hown hw2 dX10_stone_209 ?_
              refine kM_i (As := [.int (-100005)]) (rest := []) (q0 := 0) ⟨hx, hb, hml, hown, hts⟩ (c_X10_finding l D cy a _ J (va_up (va_up (va_up (va_up I 1 m0_116) 3 m1_116) 12 m2_116) 13 m3_116) (va_up (va_up (va_up (va_up R 1 m4_116) 3 m5_116) 4 m6_116) 5 m7_116) (va_up (va_up (va_up RJ 2 m8_116) 6 m9_116) 7 m10_116) (-100005) ) (cwV 1 hts gX10_stone_X10_finding rfl rfl rfl (by decide +kernel) ⟨Nat.le_of_ble_eq_true rfl, Nat.le_of_ble_eq_true rfl⟩) hK hN hP hD hS hA rfl rfl rfl hl.1 rfl (Nat.le_of_ble_eq_true rfl) dX10_stone_211 ⟨Nat.le_of_ble_eq_true rfl, Nat.le_of_ble_eq_true rfl⟩ (fun r_60 u H locs hw hP hD hS => ?_)
              obtain ⟨rfl, rfl⟩ := hw
              have hP : va_P D vwCl (MW cy a J (va_up (va_up (va_up (va_up I 1 m0_116) 3 m1_116) 12 m2_116) 13 (m3_116 + 1)) (va_up (va_up (va_up (va_up R 1 m4_116) 3 m5_116) 4 m6_116) 5 m7_116) (va_up (va_up (va_up RJ 2 m8_116) 6 m9_116) 7 m10_116)) H := hP
              have hD : va_D A (MW cy a J (va_up (va_up (va_up (va_up I 1 m0_116) 3 m1_116) 12 m2_116) 13 (m3_116 + 1)) (va_up (va_up (va_up (va_up R 1 m4_116) 3 m5_116) 4 m6_116) 5 m7_116) (va_up (va_up (va_up RJ 2 m8_116) 6 m9_116) 7 m10_116)) := hD
              exact wret_i hx hb hr hlocks (J, (va_up (va_up (va_up (va_up I 1 m0_116) 3 m1_116) 12 m2_116) 13 (m3_116 + 1)), (va_up (va_up (va_up (va_up R 1 m4_116) 3 m5_116) 4 m6_116) 5 m7_116), (va_up (va_up (va_up RJ 2 m8_116) 6 m9_116) 7 m10_116)) ⟨m0_116, m1_116, m2_116, (m3_116 + 1), m4_116, m5_116, m6_116, m7_116, m8_116, m9_116, m10_116, ⟨hm_m0_116, hm_m1_116, hm_m2_116, hm_m5_116, hm_m7_116⟩, rfl⟩ hP hD hS dX10_stone_214
          · refine lv_aload_n hx hb dX10_stone_180 rfl (lv_at hl 0 rfl) ?_
            refine va_get (D := D) (ci := 9) (v := .long (J 0)) (C := RX10) (T := TX10) (N := 30) hx hb hts hi10 hown hK hP 0 rfl rfl 0 (by decide) hw3 (fun _ h9 => h9) rfl dX10_stone_181 ?_
            refine lv_iload_n hx hb dX10_stone_184 rfl (lv_at hl 2 rfl) ?_
            refine lv_iload_n hx hb dX10_stone_185 rfl (lv_at hl 3 rfl) ?_
            refine kS_i (As := [.long (J 0), .int x1, .int (bI x2)]) (rest := []) ⟨hx, hb, hml, hown, hts⟩ (c_X10_isAtEdge l (J 0) x1 x2) (va_cwS 3 hts gX10_stone_X10_isAtEdge rfl rfl rfl (by decide +kernel) ⟨Nat.le_of_ble_eq_true rfl, Nat.le_of_ble_eq_true rfl⟩) rfl hl.1 rfl (Nat.le_of_ble_eq_true rfl) dX10_stone_186 ⟨Nat.le_of_ble_eq_true rfl, Nat.le_of_ble_eq_true rfl⟩ ?_
            refine lv_if_ne (tgt := 199) hx hb dX10_stone_189 (by decide) (fun c_61 => ?_) (fun c_61 => ?_)
            · replace c_61 := bI_t c_61
              refine lv_aload_n hx hb dX10_stone_199 rfl (lv_at hl 0 rfl) ?_
              refine va_get (D := D) (ci := 9) (v := .int m0_116) (C := RX10) (T := TX10) (N := 30) hx hb hts hi10 hown hK hP 0 rfl rfl 1 (by decide) hw0 (fun _ h9 => h9) rfl dX10_stone_200 ?_
              refine lv_bipush (v := 20) hx hb dX10_stone_203 (by decide) ?_
              refine lv_icmp_ne (tgt := 215) hx hb dX10_stone_205 (by decide) (fun c_62 => ?_) (fun c_62 => ?_)
              · refine lv_aload_n hx hb dX10_stone_215 rfl (lv_at hl 0 rfl) ?_
                refine kM_v (As := []) (rest := []) (q0 := 0) ⟨hx, hb, hml, hown, hts⟩ (t_X10_keep l D cy a _ J (va_up (va_up (va_up (va_up I 1 m0_116) 3 m1_116) 12 m2_116) 13 m3_116) (va_up (va_up (va_up (va_up R 1 m4_116) 3 m5_116) 4 m6_116) 5 m7_116) (va_up (va_up (va_up RJ 2 m8_116) 6 m9_116) 7 m10_116)   ⟨hm_m0_116, hm_m1_116, hm_m2_116, hm_m5_116, hm_m7_116, hM.2.2.2.2.2⟩) (cwV 0 hts gX10_stone_X10_keep rfl rfl rfl (by decide +kernel) ⟨Nat.le_of_ble_eq_true rfl, Nat.le_of_ble_eq_true rfl⟩) hK hN hP hD hS hA rfl rfl rfl hl.1 rfl (Nat.le_of_ble_eq_true rfl) dX10_stone_216 ⟨Nat.le_of_ble_eq_true rfl, Nat.le_of_ble_eq_true rfl⟩ (fun u H locs hw hP hD hS => ?_)
                obtain ⟨w_64, w_65, w_66, w_67, w_68, w_69, w_70, w_71, ⟨hi_72, hi_73, hi_74, hi_75⟩, rfl⟩ := hw
                have hP : va_P D vwCl (MW cy a J (va_up (va_up (va_up (va_up I 1 m0_116) 3 w_64) 12 w_65) 13 m3_116) (va_up (va_up (va_up (va_up R 1 m4_116) 3 w_66) 4 w_67) 5 w_68) (va_up (va_up (va_up RJ 2 w_69) 6 w_70) 7 w_71)) H := hP
                have hD : va_D A (MW cy a J (va_up (va_up (va_up (va_up I 1 m0_116) 3 w_64) 12 w_65) 13 m3_116) (va_up (va_up (va_up (va_up R 1 m4_116) 3 w_66) 4 w_67) 5 w_68) (va_up (va_up (va_up RJ 2 w_69) 6 w_70) 7 w_71)) := hD
                refine lv_aload_n hx hb dX10_stone_219 rfl (lv_at hl 0 rfl) ?_
                refine va_get (D := D) (ci := 9) (v := .ref (a 1)) (C := RX10) (T := TX10) (N := 30) hx hb hts hi10 hown hK hP 0 rfl rfl 2 (by decide) hw1 (fun _ h9 => h9) rfl dX10_stone_220 ?_
                refine lv_aload_n hx hb dX10_stone_223 rfl (lv_at hl 0 rfl) ?_
                refine va_get (D := D) (ci := 9) (v := .int m0_116) (C := RX10) (T := TX10) (N := 30) hx hb hts hi10 hown hK hP 0 rfl rfl 1 (by decide) hw0 (fun _ h9 => h9) rfl dX10_stone_224 ?_
                refine lv_iload_n hx hb dX10_stone_227 rfl (lv_at hl 1 rfl) ?_
                refine lv_iload_n hx hb dX10_stone_228 rfl (lv_at hl 2 rfl) ?_
                refine lv_iconst (v := 2) hx hb dX10_stone_229 (by decide) ?_
                refine lv_ishl hx hb dX10_stone_230 ?_
                refine lv_ior hx hb dX10_stone_231 ?_
                refine lv_iload_n hx hb dX10_stone_232 rfl (lv_at hl 3 rfl) ?_
                refine lv_if_eq (tgt := 242) hx hb dX10_stone_233 (by decide) (fun c_76 => ?_) (fun c_76 => ?_)
                · replace c_76 := bI_f c_76
                  refine lv_iconst (v := 0) hx hb dX10_stone_242 (by decide) ?_
                  refine lv_ior hx hb dX10_stone_243 ?_
                  refine lv_iload hx hb dX10_stone_244 (lv_at hl 4 rfl) ?_
                  refine lv_bipush (v := 9) hx hb dX10_stone_246 (by decide) ?_
                  refine lv_ishl hx hb dX10_stone_248 ?_
                  refine lv_ior hx hb dX10_stone_249 ?_
                  refine va_iast hx hb hK hP hD hS 1 0 rfl rfl (in_ne hm_m0_116 c_62) dX10_stone_250 (fun H locs hP hD hS => ?_)
                  have hP : va_P D vwCl (MW cy a J (va_up (va_up (va_up (va_up I 1 m0_116) 3 w_64) 12 w_65) 13 m3_116) (va_up (va_up (va_up (va_up R 1 (upd m4_116 m0_116.toNatClampNeg (((x0 ||| (x1 <<< ((2 : Int32) &&& 31))) ||| 0) ||| (x3 <<< ((9 : Int32) &&& 31))))) 3 w_66) 4 w_67) 5 w_68) (va_up (va_up (va_up RJ 2 w_69) 6 w_70) 7 w_71)) H := hP
                  have hD : va_D A (MW cy a J (va_up (va_up (va_up (va_up I 1 m0_116) 3 w_64) 12 w_65) 13 m3_116) (va_up (va_up (va_up (va_up R 1 (upd m4_116 m0_116.toNatClampNeg (((x0 ||| (x1 <<< ((2 : Int32) &&& 31))) ||| 0) ||| (x3 <<< ((9 : Int32) &&& 31))))) 3 w_66) 4 w_67) 5 w_68) (va_up (va_up (va_up RJ 2 w_69) 6 w_70) 7 w_71)) := hD
                  refine lv_aload_n hx hb dX10_stone_251 rfl (lv_at hl 0 rfl) ?_
                  refine lv_dup hx hb dX10_stone_252 rfl ?_
                  refine va_get (D := D) (ci := 9) (v := .int m0_116) (C := RX10) (T := TX10) (N := 30) hx hb hts hi10 hown hK hP 0 rfl rfl 1 (by decide) hw0 (fun _ h9 => h9) rfl dX10_stone_253 ?_
                  refine lv_iconst (v := 1) hx hb dX10_stone_256 (by decide) ?_
                  refine lv_iadd hx hb dX10_stone_257 ?_
                  refine va_put (D := D) (ci := 9) (v := .int (m0_116 + 1)) (ty := .int) (C := RX10) (T := TX10) (N := 30) hx hb hts hi10 tyX10 tyX10_ok nmX10 hown hK hP hD hS 0 rfl rfl 1 (by decide) hw0 (fun _ h9 => h9) rfl (by decide +kernel) rfl rfl (Nat.le_of_ble_eq_true rfl) dX10_stone_258 (fun H locs hP hD hS => ?_)
                  have hP : va_P D vwCl (MW cy a J (va_up (va_up (va_up (va_up I 1 (m0_116 + 1)) 3 w_64) 12 w_65) 13 m3_116) (va_up (va_up (va_up (va_up R 1 (upd m4_116 m0_116.toNatClampNeg (((x0 ||| (x1 <<< ((2 : Int32) &&& 31))) ||| 0) ||| (x3 <<< ((9 : Int32) &&& 31))))) 3 w_66) 4 w_67) 5 w_68) (va_up (va_up (va_up RJ 2 w_69) 6 w_70) 7 w_71)) H := hP
                  have hD : va_D A (MW cy a J (va_up (va_up (va_up (va_up I 1 (m0_116 + 1)) 3 w_64) 12 w_65) 13 m3_116) (va_up (va_up (va_up (va_up R 1 (upd m4_116 m0_116.toNatClampNeg (((x0 ||| (x1 <<< ((2 : Int32) &&& 31))) ||| 0) ||| (x3 <<< ((9 : Int32) &&& 31))))) 3 w_66) 4 w_67) 5 w_68) (va_up (va_up (va_up RJ 2 w_69) 6 w_70) 7 w_71)) := hD
                  have hi_77 : vp_in (m0_116 + 1) 21 := in_succ (in_ne hm_m0_116 c_62)
                  refine lv_aload_n hx hb dX10_stone_261 rfl (lv_at hl 0 rfl) ?_
                  refine va_get (D := D) (ci := 9) (v := .int (m0_116 + 1)) (C := RX10) (T := TX10) (N := 30) hx hb hts hi10 hown hK hP 0 rfl rfl 1 (by decide) hw0 (fun _ h9 => h9) rfl dX10_stone_262 ?_
                  refine lv_iconst (v := 1) hx hb dX10_stone_265 (by decide) ?_
                  refine lv_isub hx hb dX10_stone_266 ?_
                  exact wret_i hx hb hr hlocks (J, (va_up (va_up (va_up (va_up I 1 (m0_116 + 1)) 3 w_64) 12 w_65) 13 m3_116), (va_up (va_up (va_up (va_up R 1 (upd m4_116 m0_116.toNatClampNeg (((x0 ||| (x1 <<< ((2 : Int32) &&& 31))) ||| 0) ||| (x3 <<< ((9 : Int32) &&& 31))))) 3 w_66) 4 w_67) 5 w_68), (va_up (va_up (va_up RJ 2 w_69) 6 w_70) 7 w_71)) ⟨(m0_116 + 1), w_64, w_65, m3_116, (upd m4_116 m0_116.toNatClampNeg (((x0 ||| (x1 <<< ((2 : Int32) &&& 31))) ||| 0) ||| (x3 <<< ((9 : Int32) &&& 31)))), w_66, w_67, w_68, w_69, w_70, w_71, ⟨hi_77, hi_72, hi_73, hi_74, hi_75⟩, rfl⟩ hP hD hS dX10_stone_267
                · replace c_76 := bI_t c_76
                  refine lv_sipush (v := 256) hx hb dX10_stone_236 (by decide) ?_
                  refine lv_goto (tgt := 243) hx hb dX10_stone_239 (by decide) ?_
                  refine lv_ior hx hb dX10_stone_243 ?_
                  refine lv_iload hx hb dX10_stone_244 (lv_at hl 4 rfl) ?_
                  refine lv_bipush (v := 9) hx hb dX10_stone_246 (by decide) ?_
                  refine lv_ishl hx hb dX10_stone_248 ?_
                  refine lv_ior hx hb dX10_stone_249 ?_
                  refine va_iast hx hb hK hP hD hS 1 0 rfl rfl (in_ne hm_m0_116 c_62) dX10_stone_250 (fun H locs hP hD hS => ?_)
                  have hP : va_P D vwCl (MW cy a J (va_up (va_up (va_up (va_up I 1 m0_116) 3 w_64) 12 w_65) 13 m3_116) (va_up (va_up (va_up (va_up R 1 (upd m4_116 m0_116.toNatClampNeg (((x0 ||| (x1 <<< ((2 : Int32) &&& 31))) ||| 256) ||| (x3 <<< ((9 : Int32) &&& 31))))) 3 w_66) 4 w_67) 5 w_68) (va_up (va_up (va_up RJ 2 w_69) 6 w_70) 7 w_71)) H := hP
                  have hD : va_D A (MW cy a J (va_up (va_up (va_up (va_up I 1 m0_116) 3 w_64) 12 w_65) 13 m3_116) (va_up (va_up (va_up (va_up R 1 (upd m4_116 m0_116.toNatClampNeg (((x0 ||| (x1 <<< ((2 : Int32) &&& 31))) ||| 256) ||| (x3 <<< ((9 : Int32) &&& 31))))) 3 w_66) 4 w_67) 5 w_68) (va_up (va_up (va_up RJ 2 w_69) 6 w_70) 7 w_71)) := hD
                  refine lv_aload_n hx hb dX10_stone_251 rfl (lv_at hl 0 rfl) ?_
                  refine lv_dup hx hb dX10_stone_252 rfl ?_
                  refine va_get (D := D) (ci := 9) (v := .int m0_116) (C := RX10) (T := TX10) (N := 30) hx hb hts hi10 hown hK hP 0 rfl rfl 1 (by decide) hw0 (fun _ h9 => h9) rfl dX10_stone_253 ?_
                  refine lv_iconst (v := 1) hx hb dX10_stone_256 (by decide) ?_
                  refine lv_iadd hx hb dX10_stone_257 ?_
                  refine va_put (D := D) (ci := 9) (v := .int (m0_116 + 1)) (ty := .int) (C := RX10) (T := TX10) (N := 30) hx hb hts hi10 tyX10 tyX10_ok nmX10 hown hK hP hD hS 0 rfl rfl 1 (by decide) hw0 (fun _ h9 => h9) rfl (by decide +kernel) rfl rfl (Nat.le_of_ble_eq_true rfl) dX10_stone_258 (fun H locs hP hD hS => ?_)
                  have hP : va_P D vwCl (MW cy a J (va_up (va_up (va_up (va_up I 1 (m0_116 + 1)) 3 w_64) 12 w_65) 13 m3_116) (va_up (va_up (va_up (va_up R 1 (upd m4_116 m0_116.toNatClampNeg (((x0 ||| (x1 <<< ((2 : Int32) &&& 31))) ||| 256) ||| (x3 <<< ((9 : Int32) &&& 31))))) 3 w_66) 4 w_67) 5 w_68) (va_up (va_up (va_up RJ 2 w_69) 6 w_70) 7 w_71)) H := hP
                  have hD : va_D A (MW cy a J (va_up (va_up (va_up (va_up I 1 (m0_116 + 1)) 3 w_64) 12 w_65) 13 m3_116) (va_up (va_up (va_up (va_up R 1 (upd m4_116 m0_116.toNatClampNeg (((x0 ||| (x1 <<< ((2 : Int32) &&& 31))) ||| 256) ||| (x3 <<< ((9 : Int32) &&& 31))))) 3 w_66) 4 w_67) 5 w_68) (va_up (va_up (va_up RJ 2 w_69) 6 w_70) 7 w_71)) := hD
                  have hi_78 : vp_in (m0_116 + 1) 21 := in_succ (in_ne hm_m0_116 c_62)
                  refine lv_aload_n hx hb dX10_stone_261 rfl (lv_at hl 0 rfl) ?_
                  refine va_get (D := D) (ci := 9) (v := .int (m0_116 + 1)) (C := RX10) (T := TX10) (N := 30) hx hb hts hi10 hown hK hP 0 rfl rfl 1 (by decide) hw0 (fun _ h9 => h9) rfl dX10_stone_262 ?_
                  refine lv_iconst (v := 1) hx hb dX10_stone_265 (by decide) ?_
                  refine lv_isub hx hb dX10_stone_266 ?_
                  exact wret_i hx hb hr hlocks (J, (va_up (va_up (va_up (va_up I 1 (m0_116 + 1)) 3 w_64) 12 w_65) 13 m3_116), (va_up (va_up (va_up (va_up R 1 (upd m4_116 m0_116.toNatClampNeg (((x0 ||| (x1 <<< ((2 : Int32) &&& 31))) ||| 256) ||| (x3 <<< ((9 : Int32) &&& 31))))) 3 w_66) 4 w_67) 5 w_68), (va_up (va_up (va_up RJ 2 w_69) 6 w_70) 7 w_71)) ⟨(m0_116 + 1), w_64, w_65, m3_116, (upd m4_116 m0_116.toNatClampNeg (((x0 ||| (x1 <<< ((2 : Int32) &&& 31))) ||| 256) ||| (x3 <<< ((9 : Int32) &&& 31)))), w_66, w_67, w_68, w_69, w_70, w_71, ⟨hi_78, hi_72, hi_73, hi_74, hi_75⟩, rfl⟩ hP hD hS dX10_stone_267
              · refine lv_aload_n hx hb dX10_stone_208 rfl (lv_at hl 0 rfl) ?_
                refine lv_ldc (v := (-100005)) hx hb hown hw2 dX10_stone_209 ?_
                refine kM_i (As := [.int (-100005)]) (rest := []) (q0 := 0) ⟨hx, hb, hml, hown, hts⟩ (c_X10_finding l D cy a _ J (va_up (va_up (va_up (va_up I 1 m0_116) 3 m1_116) 12 m2_116) 13 m3_116) (va_up (va_up (va_up (va_up R 1 m4_116) 3 m5_116) 4 m6_116) 5 m7_116) (va_up (va_up (va_up RJ 2 m8_116) 6 m9_116) 7 m10_116) (-100005) ) (cwV 1 hts gX10_stone_X10_finding rfl rfl rfl (by decide +kernel) ⟨Nat.le_of_ble_eq_true rfl, Nat.le_of_ble_eq_true rfl⟩) hK hN hP hD hS hA rfl rfl rfl hl.1 rfl (Nat.le_of_ble_eq_true rfl) dX10_stone_211 ⟨Nat.le_of_ble_eq_true rfl, Nat.le_of_ble_eq_true rfl⟩ (fun r_79 u H locs hw hP hD hS => ?_)
                obtain ⟨rfl, rfl⟩ := hw
                have hP : va_P D vwCl (MW cy a J (va_up (va_up (va_up (va_up I 1 m0_116) 3 m1_116) 12 m2_116) 13 (m3_116 + 1)) (va_up (va_up (va_up (va_up R 1 m4_116) 3 m5_116) 4 m6_116) 5 m7_116) (va_up (va_up (va_up RJ 2 m8_116) 6 m9_116) 7 m10_116)) H := hP
                have hD : va_D A (MW cy a J (va_up (va_up (va_up (va_up I 1 m0_116) 3 m1_116) 12 m2_116) 13 (m3_116 + 1)) (va_up (va_up (va_up (va_up R 1 m4_116) 3 m5_116) 4 m6_116) 5 m7_116) (va_up (va_up (va_up RJ 2 m8_116) 6 m9_116) 7 m10_116)) := hD
                exact wret_i hx hb hr hlocks (J, (va_up (va_up (va_up (va_up I 1 m0_116) 3 m1_116) 12 m2_116) 13 (m3_116 + 1)), (va_up (va_up (va_up (va_up R 1 m4_116) 3 m5_116) 4 m6_116) 5 m7_116), (va_up (va_up (va_up RJ 2 m8_116) 6 m9_116) 7 m10_116)) ⟨m0_116, m1_116, m2_116, (m3_116 + 1), m4_116, m5_116, m6_116, m7_116, m8_116, m9_116, m10_116, ⟨hm_m0_116, hm_m1_116, hm_m2_116, hm_m5_116, hm_m7_116⟩, rfl⟩ hP hD hS dX10_stone_214
            · replace c_61 := bI_f c_61
              refine lv_aload_n hx hb dX10_stone_192 rfl (lv_at hl 0 rfl) ?_
              refine lv_ldc (v := (-100004)) hx hb hown hw4 dX10_stone_193 ?_
              refine kM_i (As := [.int (-100004)]) (rest := []) (q0 := 0) ⟨hx, hb, hml, hown, hts⟩ (c_X10_finding l D cy a _ J (va_up (va_up (va_up (va_up I 1 m0_116) 3 m1_116) 12 m2_116) 13 m3_116) (va_up (va_up (va_up (va_up R 1 m4_116) 3 m5_116) 4 m6_116) 5 m7_116) (va_up (va_up (va_up RJ 2 m8_116) 6 m9_116) 7 m10_116) (-100004) ) (cwV 1 hts gX10_stone_X10_finding rfl rfl rfl (by decide +kernel) ⟨Nat.le_of_ble_eq_true rfl, Nat.le_of_ble_eq_true rfl⟩) hK hN hP hD hS hA rfl rfl rfl hl.1 rfl (Nat.le_of_ble_eq_true rfl) dX10_stone_195 ⟨Nat.le_of_ble_eq_true rfl, Nat.le_of_ble_eq_true rfl⟩ (fun r_80 u H locs hw hP hD hS => ?_)
              obtain ⟨rfl, rfl⟩ := hw
              have hP : va_P D vwCl (MW cy a J (va_up (va_up (va_up (va_up I 1 m0_116) 3 m1_116) 12 m2_116) 13 (m3_116 + 1)) (va_up (va_up (va_up (va_up R 1 m4_116) 3 m5_116) 4 m6_116) 5 m7_116) (va_up (va_up (va_up RJ 2 m8_116) 6 m9_116) 7 m10_116)) H := hP
              have hD : va_D A (MW cy a J (va_up (va_up (va_up (va_up I 1 m0_116) 3 m1_116) 12 m2_116) 13 (m3_116 + 1)) (va_up (va_up (va_up (va_up R 1 m4_116) 3 m5_116) 4 m6_116) 5 m7_116) (va_up (va_up (va_up RJ 2 m8_116) 6 m9_116) 7 m10_116)) := hD
              exact wret_i hx hb hr hlocks (J, (va_up (va_up (va_up (va_up I 1 m0_116) 3 m1_116) 12 m2_116) 13 (m3_116 + 1)), (va_up (va_up (va_up (va_up R 1 m4_116) 3 m5_116) 4 m6_116) 5 m7_116), (va_up (va_up (va_up RJ 2 m8_116) 6 m9_116) 7 m10_116)) ⟨m0_116, m1_116, m2_116, (m3_116 + 1), m4_116, m5_116, m6_116, m7_116, m8_116, m9_116, m10_116, ⟨hm_m0_116, hm_m1_116, hm_m2_116, hm_m5_116, hm_m7_116⟩, rfl⟩ hP hD hS dX10_stone_198
        · refine lv_aload_n hx hb dX10_stone_130 rfl (lv_at hl 0 rfl) ?_
          refine lv_iload hx hb dX10_stone_131 (lv_at hl 7 rfl) ?_
          refine kR_i (As := [.int (nI i)]) (rest := []) (q0 := 0) ⟨hx, hb, hml, hown, hts⟩ (c_X10_isGlued l D cy a _ J (va_up (va_up (va_up (va_up I 1 m0_116) 3 m1_116) 12 m2_116) 13 m3_116) (va_up (va_up (va_up (va_up R 1 m4_116) 3 m5_116) 4 m6_116) 5 m7_116) (va_up (va_up (va_up RJ 2 m8_116) 6 m9_116) 7 m10_116) (nI i) (vp_in_nI (by omega) (by decide))) (cwV 1 hts gX10_stone_X10_isGlued rfl rfl rfl (by decide +kernel) ⟨Nat.le_of_ble_eq_true rfl, Nat.le_of_ble_eq_true rfl⟩) hK hN hP hD rfl rfl rfl hl.1 rfl (Nat.le_of_ble_eq_true rfl) dX10_stone_133 ⟨Nat.le_of_ble_eq_true rfl, Nat.le_of_ble_eq_true rfl⟩ ?_
          refine lv_if_eq (tgt := 169) hx hb dX10_stone_136 (by decide) (fun c_81 => ?_) (fun c_81 => ?_)
          · replace c_81 := bI_f c_81
            refine lv_iinc (v := nI (i + 1)) (lv' := [(9, .int (nI (i + 1))), (0, .ref (a 0)), (1, .int x0), (2, .int x1), (3, .int (bI x2)), (4, .int x3), (6, .long v6_116), (8, .int v8_116)]) hx hb dX10_stone_169 hl (k := 7) rfl (nI_1 _) (by decide) rfl (fun ls hl => ?_)
            refine lv_goto (tgt := 116) hx hb dX10_stone_172 (by decide) ?_
            exact ih116 (i + 1) v6_116 v8_116 m0_116 m1_116 m2_116 m3_116 m4_116 m5_116 m6_116 m7_116 m8_116 m9_116 m10_116 (by omega) hm_m0_116 hm_m1_116 hm_m2_116 hm_m5_116 hm_m7_116 hst (by omega) _ _ hP hD hS ls (lv_sub hl [1, 2, 3, 4, 5, 6, 7, 0] rfl)
          · replace c_81 := bI_t c_81
            refine lv_aload_n hx hb dX10_stone_139 rfl (lv_at hl 0 rfl) ?_
            refine lv_iload hx hb dX10_stone_140 (lv_at hl 7 rfl) ?_
            refine kR_i (As := [.int (nI i)]) (rest := []) (q0 := 0) ⟨hx, hb, hml, hown, hts⟩ (c_X10_fieldOf l D cy a _ J (va_up (va_up (va_up (va_up I 1 m0_116) 3 m1_116) 12 m2_116) 13 m3_116) (va_up (va_up (va_up (va_up R 1 m4_116) 3 m5_116) 4 m6_116) 5 m7_116) (va_up (va_up (va_up RJ 2 m8_116) 6 m9_116) 7 m10_116) (nI i) (vp_in_nI (by omega) (by decide))) (cwV 1 hts gX10_stone_X10_fieldOf rfl rfl rfl (by decide +kernel) ⟨Nat.le_of_ble_eq_true rfl, Nat.le_of_ble_eq_true rfl⟩) hK hN hP hD rfl rfl rfl hl.1 rfl (Nat.le_of_ble_eq_true rfl) dX10_stone_142 ⟨Nat.le_of_ble_eq_true rfl, Nat.le_of_ble_eq_true rfl⟩ ?_
            refine lv_aload_n hx hb dX10_stone_145 rfl (lv_at hl 0 rfl) ?_
            refine lv_iload hx hb dX10_stone_146 (lv_at hl 7 rfl) ?_
            refine kR_i (As := [.int (nI i)]) (rest := [.int (((m4_116 (nI i).toNatClampNeg) >>> ((2 : Int32) &&& 31)) &&& 63)]) (q0 := 0) ⟨hx, hb, hml, hown, hts⟩ (c_X10_isAcross l D cy a _ J (va_up (va_up (va_up (va_up I 1 m0_116) 3 m1_116) 12 m2_116) 13 m3_116) (va_up (va_up (va_up (va_up R 1 m4_116) 3 m5_116) 4 m6_116) 5 m7_116) (va_up (va_up (va_up RJ 2 m8_116) 6 m9_116) 7 m10_116) (nI i) (vp_in_nI (by omega) (by decide))) (cwV 1 hts gX10_stone_X10_isAcross rfl rfl rfl (by decide +kernel) ⟨Nat.le_of_ble_eq_true rfl, Nat.le_of_ble_eq_true rfl⟩) hK hN hP hD rfl rfl rfl hl.1 rfl (Nat.le_of_ble_eq_true rfl) dX10_stone_148 ⟨Nat.le_of_ble_eq_true rfl, Nat.le_of_ble_eq_true rfl⟩ ?_
            refine kS_l (As := [.int (((m4_116 (nI i).toNatClampNeg) >>> ((2 : Int32) &&& 31)) &&& 63), .int (bI (m_acr (m4_116 (nI i).toNatClampNeg)))]) (rest := []) ⟨hx, hb, hml, hown, hts⟩ (c_X10_place l (((m4_116 (nI i).toNatClampNeg) >>> ((2 : Int32) &&& 31)) &&& 63) (m_acr (m4_116 (nI i).toNatClampNeg))) (va_cwS 2 hts gX10_stone_X10_place rfl rfl rfl (by decide +kernel) ⟨Nat.le_of_ble_eq_true rfl, Nat.le_of_ble_eq_true rfl⟩) rfl hl.1 rfl (Nat.le_of_ble_eq_true rfl) dX10_stone_151 ⟨Nat.le_of_ble_eq_true rfl, Nat.le_of_ble_eq_true rfl⟩ ?_
            refine lv_lload hx hb dX10_stone_154 (lv_at hl 5 rfl) ?_
            refine lv_land hx hb dX10_stone_156 ?_
            refine lv_lconst (v := 0) hx hb dX10_stone_157 (by decide) ?_
            refine W.lcmp hx hb dX10_stone_158 ?_
            refine lv_if_eq (tgt := 169) hx hb dX10_stone_159 (by decide) (fun c_82 => ?_) (fun c_82 => ?_)
            · replace c_82 := (lg_cmp_eq _ _).mp c_82
              refine lv_iinc (v := nI (i + 1)) (lv' := [(9, .int (nI (i + 1))), (0, .ref (a 0)), (1, .int x0), (2, .int x1), (3, .int (bI x2)), (4, .int x3), (6, .long v6_116), (8, .int v8_116)]) hx hb dX10_stone_169 hl (k := 7) rfl (nI_1 _) (by decide) rfl (fun ls hl => ?_)
              refine lv_goto (tgt := 116) hx hb dX10_stone_172 (by decide) ?_
              exact ih116 (i + 1) v6_116 v8_116 m0_116 m1_116 m2_116 m3_116 m4_116 m5_116 m6_116 m7_116 m8_116 m9_116 m10_116 (by omega) hm_m0_116 hm_m1_116 hm_m2_116 hm_m5_116 hm_m7_116 hst (by omega) _ _ hP hD hS ls (lv_sub hl [1, 2, 3, 4, 5, 6, 7, 0] rfl)
            · replace c_82 := fun z => c_82 ((lg_cmp_eq _ _).mpr z)
              refine lv_aload_n hx hb dX10_stone_162 rfl (lv_at hl 0 rfl) ?_
              refine lv_ldc (v := (-100007)) hx hb hown hw5 dX10_stone_163 ?_
              refine kM_i (As := [.int (-100007)]) (rest := []) (q0 := 0) ⟨hx, hb, hml, hown, hts⟩ (c_X10_finding l D cy a _ J (va_up (va_up (va_up (va_up I 1 m0_116) 3 m1_116) 12 m2_116) 13 m3_116) (va_up (va_up (va_up (va_up R 1 m4_116) 3 m5_116) 4 m6_116) 5 m7_116) (va_up (va_up (va_up RJ 2 m8_116) 6 m9_116) 7 m10_116) (-100007) ) (cwV 1 hts gX10_stone_X10_finding rfl rfl rfl (by decide +kernel) ⟨Nat.le_of_ble_eq_true rfl, Nat.le_of_ble_eq_true rfl⟩) hK hN hP hD hS hA rfl rfl rfl hl.1 rfl (Nat.le_of_ble_eq_true rfl) dX10_stone_165 ⟨Nat.le_of_ble_eq_true rfl, Nat.le_of_ble_eq_true rfl⟩ (fun r_83 u H locs hw hP hD hS => ?_)
              obtain ⟨rfl, rfl⟩ := hw
              have hP : va_P D vwCl (MW cy a J (va_up (va_up (va_up (va_up I 1 m0_116) 3 m1_116) 12 m2_116) 13 (m3_116 + 1)) (va_up (va_up (va_up (va_up R 1 m4_116) 3 m5_116) 4 m6_116) 5 m7_116) (va_up (va_up (va_up RJ 2 m8_116) 6 m9_116) 7 m10_116)) H := hP
              have hD : va_D A (MW cy a J (va_up (va_up (va_up (va_up I 1 m0_116) 3 m1_116) 12 m2_116) 13 (m3_116 + 1)) (va_up (va_up (va_up (va_up R 1 m4_116) 3 m5_116) 4 m6_116) 5 m7_116) (va_up (va_up (va_up RJ 2 m8_116) 6 m9_116) 7 m10_116)) := hD
              exact wret_i hx hb hr hlocks (J, (va_up (va_up (va_up (va_up I 1 m0_116) 3 m1_116) 12 m2_116) 13 (m3_116 + 1)), (va_up (va_up (va_up (va_up R 1 m4_116) 3 m5_116) 4 m6_116) 5 m7_116), (va_up (va_up (va_up RJ 2 m8_116) 6 m9_116) 7 m10_116)) ⟨m0_116, m1_116, m2_116, (m3_116 + 1), m4_116, m5_116, m6_116, m7_116, m8_116, m9_116, m10_116, ⟨hm_m0_116, hm_m1_116, hm_m2_116, hm_m5_116, hm_m7_116⟩, rfl⟩ hP hD hS dX10_stone_168
  refine lv_iload_n hx hb dX10_stone_0 rfl (lv_at hl 1 rfl) ?_
  refine lv_iconst (v := 0) hx hb dX10_stone_1 (by decide) ?_
  refine lv_iconst (v := 3) hx hb dX10_stone_2 (by decide) ?_
  refine kS_i (As := [.int x0, .int 0, .int 3]) (rest := []) ⟨hx, hb, hml, hown, hts⟩ (c_X10_within l x0 0 3) (va_cwS 3 hts gX10_stone_X10_within rfl rfl rfl (by decide +kernel) ⟨Nat.le_of_ble_eq_true rfl, Nat.le_of_ble_eq_true rfl⟩) rfl hl.1 rfl (Nat.le_of_ble_eq_true rfl) dX10_stone_3 ⟨Nat.le_of_ble_eq_true rfl, Nat.le_of_ble_eq_true rfl⟩ ?_
  refine lv_if_eq (tgt := 44) hx hb dX10_stone_6 (by decide) (fun c_84 => ?_) (fun c_84 => ?_)
  · replace c_84 := bI_f c_84
    refine lv_iconst (v := 0) hx hb dX10_stone_44 (by decide) ?_
    refine lv_istore (lv' := [(5, .int 0), (0, .ref (a 0)), (1, .int x0), (2, .int x1), (3, .int (bI x2)), (4, .int x3)]) hx hb dX10_stone_45 hl (by decide) rfl (fun ls hl => ?_)
    refine lv_iload hx hb dX10_stone_47 (lv_at hl 0 rfl) ?_
    refine lv_if_ne (tgt := 59) hx hb dX10_stone_49 (by decide) (fun c_85 => absurd (by decide) c_85) (fun c_85 => ?_)
    refine lv_aload_n hx hb dX10_stone_52 rfl (lv_at hl 1 rfl) ?_
    refine lv_ldc (v := (-100001)) hx hb hown hw6 dX10_stone_53 ?_
    refine kM_i (As := [.int (-100001)]) (rest := []) (q0 := 0) ⟨hx, hb, hml, hown, hts⟩ (c_X10_finding l D cy a _ J (va_up (va_up (va_up (va_up I 1 (I 1)) 3 (I 3)) 12 (I 12)) 13 (I 13)) (va_up (va_up (va_up (va_up R 1 (R 1)) 3 (R 3)) 4 (R 4)) 5 (R 5)) (va_up (va_up (va_up RJ 2 (RJ 2)) 6 (RJ 6)) 7 (RJ 7)) (-100001) ) (cwV 1 hts gX10_stone_X10_finding rfl rfl rfl (by decide +kernel) ⟨Nat.le_of_ble_eq_true rfl, Nat.le_of_ble_eq_true rfl⟩) hK hN hP hD hS hA rfl rfl rfl hl.1 rfl (Nat.le_of_ble_eq_true rfl) dX10_stone_55 ⟨Nat.le_of_ble_eq_true rfl, Nat.le_of_ble_eq_true rfl⟩ (fun r_86 u H locs hw hP hD hS => ?_)
    obtain ⟨rfl, rfl⟩ := hw
    have hP : va_P D vwCl (MW cy a J (va_up (va_up (va_up (va_up I 1 (I 1)) 3 (I 3)) 12 (I 12)) 13 ((I 13) + 1)) (va_up (va_up (va_up (va_up R 1 (R 1)) 3 (R 3)) 4 (R 4)) 5 (R 5)) (va_up (va_up (va_up RJ 2 (RJ 2)) 6 (RJ 6)) 7 (RJ 7))) H := hP
    have hD : va_D A (MW cy a J (va_up (va_up (va_up (va_up I 1 (I 1)) 3 (I 3)) 12 (I 12)) 13 ((I 13) + 1)) (va_up (va_up (va_up (va_up R 1 (R 1)) 3 (R 3)) 4 (R 4)) 5 (R 5)) (va_up (va_up (va_up RJ 2 (RJ 2)) 6 (RJ 6)) 7 (RJ 7))) := hD
    exact wret_i hx hb hr hlocks (J, (va_up (va_up (va_up (va_up I 1 (I 1)) 3 (I 3)) 12 (I 12)) 13 ((I 13) + 1)), (va_up (va_up (va_up (va_up R 1 (R 1)) 3 (R 3)) 4 (R 4)) 5 (R 5)), (va_up (va_up (va_up RJ 2 (RJ 2)) 6 (RJ 6)) 7 (RJ 7))) ⟨(I 1), (I 3), (I 12), ((I 13) + 1), (R 1), (R 3), (R 4), (R 5), (RJ 2), (RJ 6), (RJ 7), ⟨hM.1, hM.2.1, hM.2.2.1, hM.2.2.2.1, hM.2.2.2.2.1⟩, rfl⟩ hP hD hS dX10_stone_58
  · replace c_84 := bI_t c_84
    refine lv_iload_n hx hb dX10_stone_9 rfl (lv_at hl 2 rfl) ?_
    refine kS_i (As := [.int x1]) (rest := []) ⟨hx, hb, hml, hown, hts⟩ (c_X10_isField l x1) (va_cwS 1 hts gX10_stone_X10_isField rfl rfl rfl (by decide +kernel) ⟨Nat.le_of_ble_eq_true rfl, Nat.le_of_ble_eq_true rfl⟩) rfl hl.1 rfl (Nat.le_of_ble_eq_true rfl) dX10_stone_10 ⟨Nat.le_of_ble_eq_true rfl, Nat.le_of_ble_eq_true rfl⟩ ?_
    refine lv_if_eq (tgt := 44) hx hb dX10_stone_13 (by decide) (fun c_87 => ?_) (fun c_87 => ?_)
    · replace c_87 := bI_f c_87
      refine lv_iconst (v := 0) hx hb dX10_stone_44 (by decide) ?_
      refine lv_istore (lv' := [(5, .int 0), (0, .ref (a 0)), (1, .int x0), (2, .int x1), (3, .int (bI x2)), (4, .int x3)]) hx hb dX10_stone_45 hl (by decide) rfl (fun ls hl => ?_)
      refine lv_iload hx hb dX10_stone_47 (lv_at hl 0 rfl) ?_
      refine lv_if_ne (tgt := 59) hx hb dX10_stone_49 (by decide) (fun c_88 => absurd (by decide) c_88) (fun c_88 => ?_)
      refine lv_aload_n hx hb dX10_stone_52 rfl (lv_at hl 1 rfl) ?_
      refine lv_ldc (v := (-100001)) hx hb hown hw6 dX10_stone_53 ?_
      refine kM_i (As := [.int (-100001)]) (rest := []) (q0 := 0) ⟨hx, hb, hml, hown, hts⟩ (c_X10_finding l D cy a _ J (va_up (va_up (va_up (va_up I 1 (I 1)) 3 (I 3)) 12 (I 12)) 13 (I 13)) (va_up (va_up (va_up (va_up R 1 (R 1)) 3 (R 3)) 4 (R 4)) 5 (R 5)) (va_up (va_up (va_up RJ 2 (RJ 2)) 6 (RJ 6)) 7 (RJ 7)) (-100001) ) (cwV 1 hts gX10_stone_X10_finding rfl rfl rfl (by decide +kernel) ⟨Nat.le_of_ble_eq_true rfl, Nat.le_of_ble_eq_true rfl⟩) hK hN hP hD hS hA rfl rfl rfl hl.1 rfl (Nat.le_of_ble_eq_true rfl) dX10_stone_55 ⟨Nat.le_of_ble_eq_true rfl, Nat.le_of_ble_eq_true rfl⟩ (fun r_89 u H locs hw hP hD hS => ?_)
      obtain ⟨rfl, rfl⟩ := hw
      have hP : va_P D vwCl (MW cy a J (va_up (va_up (va_up (va_up I 1 (I 1)) 3 (I 3)) 12 (I 12)) 13 ((I 13) + 1)) (va_up (va_up (va_up (va_up R 1 (R 1)) 3 (R 3)) 4 (R 4)) 5 (R 5)) (va_up (va_up (va_up RJ 2 (RJ 2)) 6 (RJ 6)) 7 (RJ 7))) H := hP
      have hD : va_D A (MW cy a J (va_up (va_up (va_up (va_up I 1 (I 1)) 3 (I 3)) 12 (I 12)) 13 ((I 13) + 1)) (va_up (va_up (va_up (va_up R 1 (R 1)) 3 (R 3)) 4 (R 4)) 5 (R 5)) (va_up (va_up (va_up RJ 2 (RJ 2)) 6 (RJ 6)) 7 (RJ 7))) := hD
      exact wret_i hx hb hr hlocks (J, (va_up (va_up (va_up (va_up I 1 (I 1)) 3 (I 3)) 12 (I 12)) 13 ((I 13) + 1)), (va_up (va_up (va_up (va_up R 1 (R 1)) 3 (R 3)) 4 (R 4)) 5 (R 5)), (va_up (va_up (va_up RJ 2 (RJ 2)) 6 (RJ 6)) 7 (RJ 7))) ⟨(I 1), (I 3), (I 12), ((I 13) + 1), (R 1), (R 3), (R 4), (R 5), (RJ 2), (RJ 6), (RJ 7), ⟨hM.1, hM.2.1, hM.2.2.1, hM.2.2.2.1, hM.2.2.2.2.1⟩, rfl⟩ hP hD hS dX10_stone_58
    · replace c_87 := bI_t c_87
      refine lv_iload_n hx hb dX10_stone_16 rfl (lv_at hl 1 rfl) ?_
      refine lv_iconst (v := 2) hx hb dX10_stone_17 (by decide) ?_
      refine lv_icmp_ne (tgt := 35) hx hb dX10_stone_18 (by decide) (fun c_90 => ?_) (fun c_90 => ?_)
      · refine lv_iload hx hb dX10_stone_35 (lv_at hl 4 rfl) ?_
        refine lv_if_ne (tgt := 44) hx hb dX10_stone_37 (by decide) (fun c_91 => ?_) (fun c_91 => ?_)
        · refine lv_iconst (v := 0) hx hb dX10_stone_44 (by decide) ?_
          refine lv_istore (lv' := [(5, .int 0), (0, .ref (a 0)), (1, .int x0), (2, .int x1), (3, .int (bI x2)), (4, .int x3)]) hx hb dX10_stone_45 hl (by decide) rfl (fun ls hl => ?_)
          refine lv_iload hx hb dX10_stone_47 (lv_at hl 0 rfl) ?_
          refine lv_if_ne (tgt := 59) hx hb dX10_stone_49 (by decide) (fun c_92 => absurd (by decide) c_92) (fun c_92 => ?_)
          refine lv_aload_n hx hb dX10_stone_52 rfl (lv_at hl 1 rfl) ?_
          refine lv_ldc (v := (-100001)) hx hb hown hw6 dX10_stone_53 ?_
          refine kM_i (As := [.int (-100001)]) (rest := []) (q0 := 0) ⟨hx, hb, hml, hown, hts⟩ (c_X10_finding l D cy a _ J (va_up (va_up (va_up (va_up I 1 (I 1)) 3 (I 3)) 12 (I 12)) 13 (I 13)) (va_up (va_up (va_up (va_up R 1 (R 1)) 3 (R 3)) 4 (R 4)) 5 (R 5)) (va_up (va_up (va_up RJ 2 (RJ 2)) 6 (RJ 6)) 7 (RJ 7)) (-100001) ) (cwV 1 hts gX10_stone_X10_finding rfl rfl rfl (by decide +kernel) ⟨Nat.le_of_ble_eq_true rfl, Nat.le_of_ble_eq_true rfl⟩) hK hN hP hD hS hA rfl rfl rfl hl.1 rfl (Nat.le_of_ble_eq_true rfl) dX10_stone_55 ⟨Nat.le_of_ble_eq_true rfl, Nat.le_of_ble_eq_true rfl⟩ (fun r_93 u H locs hw hP hD hS => ?_)
          obtain ⟨rfl, rfl⟩ := hw
          have hP : va_P D vwCl (MW cy a J (va_up (va_up (va_up (va_up I 1 (I 1)) 3 (I 3)) 12 (I 12)) 13 ((I 13) + 1)) (va_up (va_up (va_up (va_up R 1 (R 1)) 3 (R 3)) 4 (R 4)) 5 (R 5)) (va_up (va_up (va_up RJ 2 (RJ 2)) 6 (RJ 6)) 7 (RJ 7))) H := hP
          have hD : va_D A (MW cy a J (va_up (va_up (va_up (va_up I 1 (I 1)) 3 (I 3)) 12 (I 12)) 13 ((I 13) + 1)) (va_up (va_up (va_up (va_up R 1 (R 1)) 3 (R 3)) 4 (R 4)) 5 (R 5)) (va_up (va_up (va_up RJ 2 (RJ 2)) 6 (RJ 6)) 7 (RJ 7))) := hD
          exact wret_i hx hb hr hlocks (J, (va_up (va_up (va_up (va_up I 1 (I 1)) 3 (I 3)) 12 (I 12)) 13 ((I 13) + 1)), (va_up (va_up (va_up (va_up R 1 (R 1)) 3 (R 3)) 4 (R 4)) 5 (R 5)), (va_up (va_up (va_up RJ 2 (RJ 2)) 6 (RJ 6)) 7 (RJ 7))) ⟨(I 1), (I 3), (I 12), ((I 13) + 1), (R 1), (R 3), (R 4), (R 5), (RJ 2), (RJ 6), (RJ 7), ⟨hM.1, hM.2.1, hM.2.2.1, hM.2.2.2.1, hM.2.2.2.2.1⟩, rfl⟩ hP hD hS dX10_stone_58
        · refine lv_iconst (v := 1) hx hb dX10_stone_40 (by decide) ?_
          refine lv_goto (tgt := 45) hx hb dX10_stone_41 (by decide) ?_
          refine lv_istore (lv' := [(5, .int 1), (0, .ref (a 0)), (1, .int x0), (2, .int x1), (3, .int (bI x2)), (4, .int x3)]) hx hb dX10_stone_45 hl (by decide) rfl (fun ls hl => ?_)
          refine lv_iload hx hb dX10_stone_47 (lv_at hl 0 rfl) ?_
          refine lv_if_ne (tgt := 59) hx hb dX10_stone_49 (by decide) (fun c_94 => ?_) (fun c_94 => absurd c_94 (by decide))
          refine lv_iload_n hx hb dX10_stone_59 rfl (lv_at hl 3 rfl) ?_
          refine lv_iload_n hx hb dX10_stone_60 rfl (lv_at hl 4 rfl) ?_
          refine kS_l (As := [.int x1, .int (bI x2)]) (rest := []) ⟨hx, hb, hml, hown, hts⟩ (c_X10_place l x1 x2) (va_cwS 2 hts gX10_stone_X10_place rfl rfl rfl (by decide +kernel) ⟨Nat.le_of_ble_eq_true rfl, Nat.le_of_ble_eq_true rfl⟩) rfl hl.1 rfl (Nat.le_of_ble_eq_true rfl) dX10_stone_61 ⟨Nat.le_of_ble_eq_true rfl, Nat.le_of_ble_eq_true rfl⟩ ?_
          refine lv_lstore (lv' := [(6, .long (m_place x1 x2)), (5, .int 1), (0, .ref (a 0)), (1, .int x0), (2, .int x1), (3, .int (bI x2)), (4, .int x3)]) hx hb dX10_stone_64 hl (by decide) rfl (fun ls hl => ?_)
          refine lv_lload hx hb dX10_stone_66 (lv_at hl 0 rfl) ?_
          refine lv_lconst (v := 0) hx hb dX10_stone_68 (by decide) ?_
          refine W.lcmp hx hb dX10_stone_69 ?_
          refine lv_if_eq (tgt := 89) hx hb dX10_stone_70 (by decide) (fun c_95 => ?_) (fun c_95 => ?_)
          · replace c_95 := (lg_cmp_eq _ _).mp c_95
            refine lv_aload_n hx hb dX10_stone_89 rfl (lv_at hl 2 rfl) ?_
            refine lv_ldc (v := (-100003)) hx hb hown hw7 dX10_stone_90 ?_
            refine kM_i (As := [.int (-100003)]) (rest := []) (q0 := 0) ⟨hx, hb, hml, hown, hts⟩ (c_X10_finding l D cy a _ J (va_up (va_up (va_up (va_up I 1 (I 1)) 3 (I 3)) 12 (I 12)) 13 (I 13)) (va_up (va_up (va_up (va_up R 1 (R 1)) 3 (R 3)) 4 (R 4)) 5 (R 5)) (va_up (va_up (va_up RJ 2 (RJ 2)) 6 (RJ 6)) 7 (RJ 7)) (-100003) ) (cwV 1 hts gX10_stone_X10_finding rfl rfl rfl (by decide +kernel) ⟨Nat.le_of_ble_eq_true rfl, Nat.le_of_ble_eq_true rfl⟩) hK hN hP hD hS hA rfl rfl rfl hl.1 rfl (Nat.le_of_ble_eq_true rfl) dX10_stone_92 ⟨Nat.le_of_ble_eq_true rfl, Nat.le_of_ble_eq_true rfl⟩ (fun r_96 u H locs hw hP hD hS => ?_)
            obtain ⟨rfl, rfl⟩ := hw
            have hP : va_P D vwCl (MW cy a J (va_up (va_up (va_up (va_up I 1 (I 1)) 3 (I 3)) 12 (I 12)) 13 ((I 13) + 1)) (va_up (va_up (va_up (va_up R 1 (R 1)) 3 (R 3)) 4 (R 4)) 5 (R 5)) (va_up (va_up (va_up RJ 2 (RJ 2)) 6 (RJ 6)) 7 (RJ 7))) H := hP
            have hD : va_D A (MW cy a J (va_up (va_up (va_up (va_up I 1 (I 1)) 3 (I 3)) 12 (I 12)) 13 ((I 13) + 1)) (va_up (va_up (va_up (va_up R 1 (R 1)) 3 (R 3)) 4 (R 4)) 5 (R 5)) (va_up (va_up (va_up RJ 2 (RJ 2)) 6 (RJ 6)) 7 (RJ 7))) := hD
            exact wret_i hx hb hr hlocks (J, (va_up (va_up (va_up (va_up I 1 (I 1)) 3 (I 3)) 12 (I 12)) 13 ((I 13) + 1)), (va_up (va_up (va_up (va_up R 1 (R 1)) 3 (R 3)) 4 (R 4)) 5 (R 5)), (va_up (va_up (va_up RJ 2 (RJ 2)) 6 (RJ 6)) 7 (RJ 7))) ⟨(I 1), (I 3), (I 12), ((I 13) + 1), (R 1), (R 3), (R 4), (R 5), (RJ 2), (RJ 6), (RJ 7), ⟨hM.1, hM.2.1, hM.2.2.1, hM.2.2.2.1, hM.2.2.2.2.1⟩, rfl⟩ hP hD hS dX10_stone_95
          · replace c_95 := fun z => c_95 ((lg_cmp_eq _ _).mpr z)
            refine lv_lload hx hb dX10_stone_73 (lv_at hl 0 rfl) ?_
            refine lv_aload_n hx hb dX10_stone_75 rfl (lv_at hl 2 rfl) ?_
            refine va_get (D := D) (ci := 9) (v := .long (J 0)) (C := RX10) (T := TX10) (N := 30) hx hb hts hi10 hown hK hP 0 rfl rfl 0 (by decide) hw3 (fun _ h9 => h9) rfl dX10_stone_76 ?_
            refine lv_ldc2 (v := (-1)) hx hb hown hw8 dX10_stone_79 ?_
            refine lv_lxor hx hb dX10_stone_82 ?_
            refine lv_land hx hb dX10_stone_83 ?_
            refine lv_lconst (v := 0) hx hb dX10_stone_84 (by decide) ?_
            refine W.lcmp hx hb dX10_stone_85 ?_
            refine lv_if_eq (tgt := 96) hx hb dX10_stone_86 (by decide) (fun c_97 => ?_) (fun c_97 => ?_)
            · replace c_97 := (lg_cmp_eq _ _).mp c_97
              refine lv_iload_n hx hb dX10_stone_96 rfl (lv_at hl 3 rfl) ?_
              refine lv_iconst (v := 1) hx hb dX10_stone_97 (by decide) ?_
              refine lv_icmp_eq (tgt := 106) hx hb dX10_stone_98 (by decide) (fun c_98 => ?_) (fun c_98 => ?_)
              · refine lv_iconst (v := 1) hx hb dX10_stone_106 (by decide) ?_
                refine lv_goto (tgt := 111) hx hb dX10_stone_107 (by decide) ?_
                refine lv_istore (lv' := [(8, .int 1), (6, .long (m_place x1 x2)), (5, .int 1), (0, .ref (a 0)), (1, .int x0), (2, .int x1), (3, .int (bI x2)), (4, .int x3)]) hx hb dX10_stone_111 hl (by decide) rfl (fun ls hl => ?_)
                refine lv_iconst (v := 0) hx hb dX10_stone_113 (by decide) ?_
                refine lv_istore (lv' := [(9, .int 0), (8, .int 1), (6, .long (m_place x1 x2)), (5, .int 1), (0, .ref (a 0)), (1, .int x0), (2, .int x1), (3, .int (bI x2)), (4, .int x3)]) hx hb dX10_stone_114 hl (by decide) rfl (fun ls hl => ?_)
                exact lp116 _ 0 (m_place x1 x2) (1 : Int32) (I 1) (I 3) (I 12) (I 13) (R 1) (R 3) (R 4) (R 5) (RJ 2) (RJ 6) (RJ 7) (by omega) hM.1 hM.2.1 hM.2.2.1 hM.2.2.2.1 hM.2.2.2.2.1 rfl (Nat.lt_succ_self _) _ _ hP hD hS ls (lv_sub hl [4, 5, 6, 7, 8, 2, 1, 0] rfl)
              · refine lv_iload_n hx hb dX10_stone_101 rfl (lv_at hl 3 rfl) ?_
                refine lv_iconst (v := 2) hx hb dX10_stone_102 (by decide) ?_
                refine lv_icmp_ne (tgt := 110) hx hb dX10_stone_103 (by decide) (fun c_99 => ?_) (fun c_99 => ?_)
                · refine lv_iconst (v := 0) hx hb dX10_stone_110 (by decide) ?_
                  refine lv_istore (lv' := [(8, .int 0), (6, .long (m_place x1 x2)), (5, .int 1), (0, .ref (a 0)), (1, .int x0), (2, .int x1), (3, .int (bI x2)), (4, .int x3)]) hx hb dX10_stone_111 hl (by decide) rfl (fun ls hl => ?_)
                  refine lv_iconst (v := 0) hx hb dX10_stone_113 (by decide) ?_
                  refine lv_istore (lv' := [(9, .int 0), (8, .int 0), (6, .long (m_place x1 x2)), (5, .int 1), (0, .ref (a 0)), (1, .int x0), (2, .int x1), (3, .int (bI x2)), (4, .int x3)]) hx hb dX10_stone_114 hl (by decide) rfl (fun ls hl => ?_)
                  exact lp116 _ 0 (m_place x1 x2) (0 : Int32) (I 1) (I 3) (I 12) (I 13) (R 1) (R 3) (R 4) (R 5) (RJ 2) (RJ 6) (RJ 7) (by omega) hM.1 hM.2.1 hM.2.2.1 hM.2.2.2.1 hM.2.2.2.2.1 rfl (Nat.lt_succ_self _) _ _ hP hD hS ls (lv_sub hl [4, 5, 6, 7, 8, 2, 1, 0] rfl)
                · refine lv_iconst (v := 1) hx hb dX10_stone_106 (by decide) ?_
                  refine lv_goto (tgt := 111) hx hb dX10_stone_107 (by decide) ?_
                  refine lv_istore (lv' := [(8, .int 1), (6, .long (m_place x1 x2)), (5, .int 1), (0, .ref (a 0)), (1, .int x0), (2, .int x1), (3, .int (bI x2)), (4, .int x3)]) hx hb dX10_stone_111 hl (by decide) rfl (fun ls hl => ?_)
                  refine lv_iconst (v := 0) hx hb dX10_stone_113 (by decide) ?_
                  refine lv_istore (lv' := [(9, .int 0), (8, .int 1), (6, .long (m_place x1 x2)), (5, .int 1), (0, .ref (a 0)), (1, .int x0), (2, .int x1), (3, .int (bI x2)), (4, .int x3)]) hx hb dX10_stone_114 hl (by decide) rfl (fun ls hl => ?_)
                  exact lp116 _ 0 (m_place x1 x2) (1 : Int32) (I 1) (I 3) (I 12) (I 13) (R 1) (R 3) (R 4) (R 5) (RJ 2) (RJ 6) (RJ 7) (by omega) hM.1 hM.2.1 hM.2.2.1 hM.2.2.2.1 hM.2.2.2.2.1 rfl (Nat.lt_succ_self _) _ _ hP hD hS ls (lv_sub hl [4, 5, 6, 7, 8, 2, 1, 0] rfl)
            · replace c_97 := fun z => c_97 ((lg_cmp_eq _ _).mpr z)
              refine lv_aload_n hx hb dX10_stone_89 rfl (lv_at hl 2 rfl) ?_
              refine lv_ldc (v := (-100003)) hx hb hown hw7 dX10_stone_90 ?_
              refine kM_i (As := [.int (-100003)]) (rest := []) (q0 := 0) ⟨hx, hb, hml, hown, hts⟩ (c_X10_finding l D cy a _ J (va_up (va_up (va_up (va_up I 1 (I 1)) 3 (I 3)) 12 (I 12)) 13 (I 13)) (va_up (va_up (va_up (va_up R 1 (R 1)) 3 (R 3)) 4 (R 4)) 5 (R 5)) (va_up (va_up (va_up RJ 2 (RJ 2)) 6 (RJ 6)) 7 (RJ 7)) (-100003) ) (cwV 1 hts gX10_stone_X10_finding rfl rfl rfl (by decide +kernel) ⟨Nat.le_of_ble_eq_true rfl, Nat.le_of_ble_eq_true rfl⟩) hK hN hP hD hS hA rfl rfl rfl hl.1 rfl (Nat.le_of_ble_eq_true rfl) dX10_stone_92 ⟨Nat.le_of_ble_eq_true rfl, Nat.le_of_ble_eq_true rfl⟩ (fun r_100 u H locs hw hP hD hS => ?_)
              obtain ⟨rfl, rfl⟩ := hw
              have hP : va_P D vwCl (MW cy a J (va_up (va_up (va_up (va_up I 1 (I 1)) 3 (I 3)) 12 (I 12)) 13 ((I 13) + 1)) (va_up (va_up (va_up (va_up R 1 (R 1)) 3 (R 3)) 4 (R 4)) 5 (R 5)) (va_up (va_up (va_up RJ 2 (RJ 2)) 6 (RJ 6)) 7 (RJ 7))) H := hP
              have hD : va_D A (MW cy a J (va_up (va_up (va_up (va_up I 1 (I 1)) 3 (I 3)) 12 (I 12)) 13 ((I 13) + 1)) (va_up (va_up (va_up (va_up R 1 (R 1)) 3 (R 3)) 4 (R 4)) 5 (R 5)) (va_up (va_up (va_up RJ 2 (RJ 2)) 6 (RJ 6)) 7 (RJ 7))) := hD
              exact wret_i hx hb hr hlocks (J, (va_up (va_up (va_up (va_up I 1 (I 1)) 3 (I 3)) 12 (I 12)) 13 ((I 13) + 1)), (va_up (va_up (va_up (va_up R 1 (R 1)) 3 (R 3)) 4 (R 4)) 5 (R 5)), (va_up (va_up (va_up RJ 2 (RJ 2)) 6 (RJ 6)) 7 (RJ 7))) ⟨(I 1), (I 3), (I 12), ((I 13) + 1), (R 1), (R 3), (R 4), (R 5), (RJ 2), (RJ 6), (RJ 7), ⟨hM.1, hM.2.1, hM.2.2.1, hM.2.2.2.1, hM.2.2.2.2.1⟩, rfl⟩ hP hD hS dX10_stone_95
      · refine lv_iload hx hb dX10_stone_21 (lv_at hl 4 rfl) ?_
        refine lv_iconst (v := 1) hx hb dX10_stone_23 (by decide) ?_
        refine lv_bipush (v := 99) hx hb dX10_stone_24 (by decide) ?_
        refine kS_i (As := [.int x3, .int 1, .int 99]) (rest := []) ⟨hx, hb, hml, hown, hts⟩ (c_X10_within l x3 1 99) (va_cwS 3 hts gX10_stone_X10_within rfl rfl rfl (by decide +kernel) ⟨Nat.le_of_ble_eq_true rfl, Nat.le_of_ble_eq_true rfl⟩) rfl hl.1 rfl (Nat.le_of_ble_eq_true rfl) dX10_stone_26 ⟨Nat.le_of_ble_eq_true rfl, Nat.le_of_ble_eq_true rfl⟩ ?_
        refine lv_if_eq (tgt := 44) hx hb dX10_stone_29 (by decide) (fun c_101 => ?_) (fun c_101 => ?_)
        · replace c_101 := bI_f c_101
          refine lv_iconst (v := 0) hx hb dX10_stone_44 (by decide) ?_
          refine lv_istore (lv' := [(5, .int 0), (0, .ref (a 0)), (1, .int x0), (2, .int x1), (3, .int (bI x2)), (4, .int x3)]) hx hb dX10_stone_45 hl (by decide) rfl (fun ls hl => ?_)
          refine lv_iload hx hb dX10_stone_47 (lv_at hl 0 rfl) ?_
          refine lv_if_ne (tgt := 59) hx hb dX10_stone_49 (by decide) (fun c_102 => absurd (by decide) c_102) (fun c_102 => ?_)
          refine lv_aload_n hx hb dX10_stone_52 rfl (lv_at hl 1 rfl) ?_
          refine lv_ldc (v := (-100001)) hx hb hown hw6 dX10_stone_53 ?_
          refine kM_i (As := [.int (-100001)]) (rest := []) (q0 := 0) ⟨hx, hb, hml, hown, hts⟩ (c_X10_finding l D cy a _ J (va_up (va_up (va_up (va_up I 1 (I 1)) 3 (I 3)) 12 (I 12)) 13 (I 13)) (va_up (va_up (va_up (va_up R 1 (R 1)) 3 (R 3)) 4 (R 4)) 5 (R 5)) (va_up (va_up (va_up RJ 2 (RJ 2)) 6 (RJ 6)) 7 (RJ 7)) (-100001) ) (cwV 1 hts gX10_stone_X10_finding rfl rfl rfl (by decide +kernel) ⟨Nat.le_of_ble_eq_true rfl, Nat.le_of_ble_eq_true rfl⟩) hK hN hP hD hS hA rfl rfl rfl hl.1 rfl (Nat.le_of_ble_eq_true rfl) dX10_stone_55 ⟨Nat.le_of_ble_eq_true rfl, Nat.le_of_ble_eq_true rfl⟩ (fun r_103 u H locs hw hP hD hS => ?_)
          obtain ⟨rfl, rfl⟩ := hw
          have hP : va_P D vwCl (MW cy a J (va_up (va_up (va_up (va_up I 1 (I 1)) 3 (I 3)) 12 (I 12)) 13 ((I 13) + 1)) (va_up (va_up (va_up (va_up R 1 (R 1)) 3 (R 3)) 4 (R 4)) 5 (R 5)) (va_up (va_up (va_up RJ 2 (RJ 2)) 6 (RJ 6)) 7 (RJ 7))) H := hP
          have hD : va_D A (MW cy a J (va_up (va_up (va_up (va_up I 1 (I 1)) 3 (I 3)) 12 (I 12)) 13 ((I 13) + 1)) (va_up (va_up (va_up (va_up R 1 (R 1)) 3 (R 3)) 4 (R 4)) 5 (R 5)) (va_up (va_up (va_up RJ 2 (RJ 2)) 6 (RJ 6)) 7 (RJ 7))) := hD
          exact wret_i hx hb hr hlocks (J, (va_up (va_up (va_up (va_up I 1 (I 1)) 3 (I 3)) 12 (I 12)) 13 ((I 13) + 1)), (va_up (va_up (va_up (va_up R 1 (R 1)) 3 (R 3)) 4 (R 4)) 5 (R 5)), (va_up (va_up (va_up RJ 2 (RJ 2)) 6 (RJ 6)) 7 (RJ 7))) ⟨(I 1), (I 3), (I 12), ((I 13) + 1), (R 1), (R 3), (R 4), (R 5), (RJ 2), (RJ 6), (RJ 7), ⟨hM.1, hM.2.1, hM.2.2.1, hM.2.2.2.1, hM.2.2.2.2.1⟩, rfl⟩ hP hD hS dX10_stone_58
        · replace c_101 := bI_t c_101
          refine lv_goto (tgt := 40) hx hb dX10_stone_32 (by decide) ?_
          refine lv_iconst (v := 1) hx hb dX10_stone_40 (by decide) ?_
          refine lv_goto (tgt := 45) hx hb dX10_stone_41 (by decide) ?_
          refine lv_istore (lv' := [(5, .int 1), (0, .ref (a 0)), (1, .int x0), (2, .int x1), (3, .int (bI x2)), (4, .int x3)]) hx hb dX10_stone_45 hl (by decide) rfl (fun ls hl => ?_)
          refine lv_iload hx hb dX10_stone_47 (lv_at hl 0 rfl) ?_
          refine lv_if_ne (tgt := 59) hx hb dX10_stone_49 (by decide) (fun c_104 => ?_) (fun c_104 => absurd c_104 (by decide))
          refine lv_iload_n hx hb dX10_stone_59 rfl (lv_at hl 3 rfl) ?_
          refine lv_iload_n hx hb dX10_stone_60 rfl (lv_at hl 4 rfl) ?_
          refine kS_l (As := [.int x1, .int (bI x2)]) (rest := []) ⟨hx, hb, hml, hown, hts⟩ (c_X10_place l x1 x2) (va_cwS 2 hts gX10_stone_X10_place rfl rfl rfl (by decide +kernel) ⟨Nat.le_of_ble_eq_true rfl, Nat.le_of_ble_eq_true rfl⟩) rfl hl.1 rfl (Nat.le_of_ble_eq_true rfl) dX10_stone_61 ⟨Nat.le_of_ble_eq_true rfl, Nat.le_of_ble_eq_true rfl⟩ ?_
          refine lv_lstore (lv' := [(6, .long (m_place x1 x2)), (5, .int 1), (0, .ref (a 0)), (1, .int x0), (2, .int x1), (3, .int (bI x2)), (4, .int x3)]) hx hb dX10_stone_64 hl (by decide) rfl (fun ls hl => ?_)
          refine lv_lload hx hb dX10_stone_66 (lv_at hl 0 rfl) ?_
          refine lv_lconst (v := 0) hx hb dX10_stone_68 (by decide) ?_
          refine W.lcmp hx hb dX10_stone_69 ?_
          refine lv_if_eq (tgt := 89) hx hb dX10_stone_70 (by decide) (fun c_105 => ?_) (fun c_105 => ?_)
          · replace c_105 := (lg_cmp_eq _ _).mp c_105
            refine lv_aload_n hx hb dX10_stone_89 rfl (lv_at hl 2 rfl) ?_
            refine lv_ldc (v := (-100003)) hx hb hown hw7 dX10_stone_90 ?_
            refine kM_i (As := [.int (-100003)]) (rest := []) (q0 := 0) ⟨hx, hb, hml, hown, hts⟩ (c_X10_finding l D cy a _ J (va_up (va_up (va_up (va_up I 1 (I 1)) 3 (I 3)) 12 (I 12)) 13 (I 13)) (va_up (va_up (va_up (va_up R 1 (R 1)) 3 (R 3)) 4 (R 4)) 5 (R 5)) (va_up (va_up (va_up RJ 2 (RJ 2)) 6 (RJ 6)) 7 (RJ 7)) (-100003) ) (cwV 1 hts gX10_stone_X10_finding rfl rfl rfl (by decide +kernel) ⟨Nat.le_of_ble_eq_true rfl, Nat.le_of_ble_eq_true rfl⟩) hK hN hP hD hS hA rfl rfl rfl hl.1 rfl (Nat.le_of_ble_eq_true rfl) dX10_stone_92 ⟨Nat.le_of_ble_eq_true rfl, Nat.le_of_ble_eq_true rfl⟩ (fun r_106 u H locs hw hP hD hS => ?_)
            obtain ⟨rfl, rfl⟩ := hw
            have hP : va_P D vwCl (MW cy a J (va_up (va_up (va_up (va_up I 1 (I 1)) 3 (I 3)) 12 (I 12)) 13 ((I 13) + 1)) (va_up (va_up (va_up (va_up R 1 (R 1)) 3 (R 3)) 4 (R 4)) 5 (R 5)) (va_up (va_up (va_up RJ 2 (RJ 2)) 6 (RJ 6)) 7 (RJ 7))) H := hP
            have hD : va_D A (MW cy a J (va_up (va_up (va_up (va_up I 1 (I 1)) 3 (I 3)) 12 (I 12)) 13 ((I 13) + 1)) (va_up (va_up (va_up (va_up R 1 (R 1)) 3 (R 3)) 4 (R 4)) 5 (R 5)) (va_up (va_up (va_up RJ 2 (RJ 2)) 6 (RJ 6)) 7 (RJ 7))) := hD
            exact wret_i hx hb hr hlocks (J, (va_up (va_up (va_up (va_up I 1 (I 1)) 3 (I 3)) 12 (I 12)) 13 ((I 13) + 1)), (va_up (va_up (va_up (va_up R 1 (R 1)) 3 (R 3)) 4 (R 4)) 5 (R 5)), (va_up (va_up (va_up RJ 2 (RJ 2)) 6 (RJ 6)) 7 (RJ 7))) ⟨(I 1), (I 3), (I 12), ((I 13) + 1), (R 1), (R 3), (R 4), (R 5), (RJ 2), (RJ 6), (RJ 7), ⟨hM.1, hM.2.1, hM.2.2.1, hM.2.2.2.1, hM.2.2.2.2.1⟩, rfl⟩ hP hD hS dX10_stone_95
          · replace c_105 := fun z => c_105 ((lg_cmp_eq _ _).mpr z)
            refine lv_lload hx hb dX10_stone_73 (lv_at hl 0 rfl) ?_
            refine lv_aload_n hx hb dX10_stone_75 rfl (lv_at hl 2 rfl) ?_
            refine va_get (D := D) (ci := 9) (v := .long (J 0)) (C := RX10) (T := TX10) (N := 30) hx hb hts hi10 hown hK hP 0 rfl rfl 0 (by decide) hw3 (fun _ h9 => h9) rfl dX10_stone_76 ?_
            refine lv_ldc2 (v := (-1)) hx hb hown hw8 dX10_stone_79 ?_
            refine lv_lxor hx hb dX10_stone_82 ?_
            refine lv_land hx hb dX10_stone_83 ?_
            refine lv_lconst (v := 0) hx hb dX10_stone_84 (by decide) ?_
            refine W.lcmp hx hb dX10_stone_85 ?_
            refine lv_if_eq (tgt := 96) hx hb dX10_stone_86 (by decide) (fun c_107 => ?_) (fun c_107 => ?_)
            · replace c_107 := (lg_cmp_eq _ _).mp c_107
              refine lv_iload_n hx hb dX10_stone_96 rfl (lv_at hl 3 rfl) ?_
              refine lv_iconst (v := 1) hx hb dX10_stone_97 (by decide) ?_
              refine lv_icmp_eq (tgt := 106) hx hb dX10_stone_98 (by decide) (fun c_108 => ?_) (fun c_108 => ?_)
              · refine lv_iconst (v := 1) hx hb dX10_stone_106 (by decide) ?_
                refine lv_goto (tgt := 111) hx hb dX10_stone_107 (by decide) ?_
                refine lv_istore (lv' := [(8, .int 1), (6, .long (m_place x1 x2)), (5, .int 1), (0, .ref (a 0)), (1, .int x0), (2, .int x1), (3, .int (bI x2)), (4, .int x3)]) hx hb dX10_stone_111 hl (by decide) rfl (fun ls hl => ?_)
                refine lv_iconst (v := 0) hx hb dX10_stone_113 (by decide) ?_
                refine lv_istore (lv' := [(9, .int 0), (8, .int 1), (6, .long (m_place x1 x2)), (5, .int 1), (0, .ref (a 0)), (1, .int x0), (2, .int x1), (3, .int (bI x2)), (4, .int x3)]) hx hb dX10_stone_114 hl (by decide) rfl (fun ls hl => ?_)
                exact lp116 _ 0 (m_place x1 x2) (1 : Int32) (I 1) (I 3) (I 12) (I 13) (R 1) (R 3) (R 4) (R 5) (RJ 2) (RJ 6) (RJ 7) (by omega) hM.1 hM.2.1 hM.2.2.1 hM.2.2.2.1 hM.2.2.2.2.1 rfl (Nat.lt_succ_self _) _ _ hP hD hS ls (lv_sub hl [4, 5, 6, 7, 8, 2, 1, 0] rfl)
              · refine lv_iload_n hx hb dX10_stone_101 rfl (lv_at hl 3 rfl) ?_
                refine lv_iconst (v := 2) hx hb dX10_stone_102 (by decide) ?_
                refine lv_icmp_ne (tgt := 110) hx hb dX10_stone_103 (by decide) (fun c_109 => ?_) (fun c_109 => ?_)
                · refine lv_iconst (v := 0) hx hb dX10_stone_110 (by decide) ?_
                  refine lv_istore (lv' := [(8, .int 0), (6, .long (m_place x1 x2)), (5, .int 1), (0, .ref (a 0)), (1, .int x0), (2, .int x1), (3, .int (bI x2)), (4, .int x3)]) hx hb dX10_stone_111 hl (by decide) rfl (fun ls hl => ?_)
                  refine lv_iconst (v := 0) hx hb dX10_stone_113 (by decide) ?_
                  refine lv_istore (lv' := [(9, .int 0), (8, .int 0), (6, .long (m_place x1 x2)), (5, .int 1), (0, .ref (a 0)), (1, .int x0), (2, .int x1), (3, .int (bI x2)), (4, .int x3)]) hx hb dX10_stone_114 hl (by decide) rfl (fun ls hl => ?_)
                  exact lp116 _ 0 (m_place x1 x2) (0 : Int32) (I 1) (I 3) (I 12) (I 13) (R 1) (R 3) (R 4) (R 5) (RJ 2) (RJ 6) (RJ 7) (by omega) hM.1 hM.2.1 hM.2.2.1 hM.2.2.2.1 hM.2.2.2.2.1 rfl (Nat.lt_succ_self _) _ _ hP hD hS ls (lv_sub hl [4, 5, 6, 7, 8, 2, 1, 0] rfl)
                · refine lv_iconst (v := 1) hx hb dX10_stone_106 (by decide) ?_
                  refine lv_goto (tgt := 111) hx hb dX10_stone_107 (by decide) ?_
                  refine lv_istore (lv' := [(8, .int 1), (6, .long (m_place x1 x2)), (5, .int 1), (0, .ref (a 0)), (1, .int x0), (2, .int x1), (3, .int (bI x2)), (4, .int x3)]) hx hb dX10_stone_111 hl (by decide) rfl (fun ls hl => ?_)
                  refine lv_iconst (v := 0) hx hb dX10_stone_113 (by decide) ?_
                  refine lv_istore (lv' := [(9, .int 0), (8, .int 1), (6, .long (m_place x1 x2)), (5, .int 1), (0, .ref (a 0)), (1, .int x0), (2, .int x1), (3, .int (bI x2)), (4, .int x3)]) hx hb dX10_stone_114 hl (by decide) rfl (fun ls hl => ?_)
                  exact lp116 _ 0 (m_place x1 x2) (1 : Int32) (I 1) (I 3) (I 12) (I 13) (R 1) (R 3) (R 4) (R 5) (RJ 2) (RJ 6) (RJ 7) (by omega) hM.1 hM.2.1 hM.2.2.1 hM.2.2.2.1 hM.2.2.2.2.1 rfl (Nat.lt_succ_self _) _ _ hP hD hS ls (lv_sub hl [4, 5, 6, 7, 8, 2, 1, 0] rfl)
            · replace c_107 := fun z => c_107 ((lg_cmp_eq _ _).mpr z)
              refine lv_aload_n hx hb dX10_stone_89 rfl (lv_at hl 2 rfl) ?_
              refine lv_ldc (v := (-100003)) hx hb hown hw7 dX10_stone_90 ?_
              refine kM_i (As := [.int (-100003)]) (rest := []) (q0 := 0) ⟨hx, hb, hml, hown, hts⟩ (c_X10_finding l D cy a _ J (va_up (va_up (va_up (va_up I 1 (I 1)) 3 (I 3)) 12 (I 12)) 13 (I 13)) (va_up (va_up (va_up (va_up R 1 (R 1)) 3 (R 3)) 4 (R 4)) 5 (R 5)) (va_up (va_up (va_up RJ 2 (RJ 2)) 6 (RJ 6)) 7 (RJ 7)) (-100003) ) (cwV 1 hts gX10_stone_X10_finding rfl rfl rfl (by decide +kernel) ⟨Nat.le_of_ble_eq_true rfl, Nat.le_of_ble_eq_true rfl⟩) hK hN hP hD hS hA rfl rfl rfl hl.1 rfl (Nat.le_of_ble_eq_true rfl) dX10_stone_92 ⟨Nat.le_of_ble_eq_true rfl, Nat.le_of_ble_eq_true rfl⟩ (fun r_110 u H locs hw hP hD hS => ?_)
              obtain ⟨rfl, rfl⟩ := hw
              have hP : va_P D vwCl (MW cy a J (va_up (va_up (va_up (va_up I 1 (I 1)) 3 (I 3)) 12 (I 12)) 13 ((I 13) + 1)) (va_up (va_up (va_up (va_up R 1 (R 1)) 3 (R 3)) 4 (R 4)) 5 (R 5)) (va_up (va_up (va_up RJ 2 (RJ 2)) 6 (RJ 6)) 7 (RJ 7))) H := hP
              have hD : va_D A (MW cy a J (va_up (va_up (va_up (va_up I 1 (I 1)) 3 (I 3)) 12 (I 12)) 13 ((I 13) + 1)) (va_up (va_up (va_up (va_up R 1 (R 1)) 3 (R 3)) 4 (R 4)) 5 (R 5)) (va_up (va_up (va_up RJ 2 (RJ 2)) 6 (RJ 6)) 7 (RJ 7))) := hD
              exact wret_i hx hb hr hlocks (J, (va_up (va_up (va_up (va_up I 1 (I 1)) 3 (I 3)) 12 (I 12)) 13 ((I 13) + 1)), (va_up (va_up (va_up (va_up R 1 (R 1)) 3 (R 3)) 4 (R 4)) 5 (R 5)), (va_up (va_up (va_up RJ 2 (RJ 2)) 6 (RJ 6)) 7 (RJ 7))) ⟨(I 1), (I 3), (I 12), ((I 13) + 1), (R 1), (R 3), (R 4), (R 5), (RJ 2), (RJ 6), (RJ 7), ⟨hM.1, hM.2.1, hM.2.2.1, hM.2.2.2.1, hM.2.2.2.2.1⟩, rfl⟩ hP hD hS dX10_stone_95
theorem dX10_loose_0 : decode cX10_loose 0 = .ok (.aload_n 0, 1) := by decide +kernel
theorem dX10_loose_1 : decode cX10_loose 1 = .ok (.getfield 85, 3) := by decide +kernel
theorem dX10_loose_4 : decode cX10_loose 4 = .ok (.ifCond .ne 10, 3) := by decide +kernel
theorem dX10_loose_14 : decode cX10_loose 14 = .ok (.aload_n 0, 1) := by decide +kernel
set_option maxRecDepth 20000 in
theorem ggX10_loose_X10_keep : GoodIn wsX10_loose wsX10_keep := goodIn_r _ [12, 13, 14, 15, 16, 17, 18, 19, 20, 1, 21, 22, 23, 24, 25, 26, 27, 28, 29, 30, 31, 32, 33, 34, 35, 36, 37, 38, 39, 40, 41, 42, 43, 44, 45, 46, 47, 48, 49, 50, 51, 52, 53, 54] (by decide +kernel) (by decide +kernel)
set_option maxRecDepth 20000 in
theorem gX10_loose_X10_keep : GoodIn wsX10_loose (wsV RX10 134 RX10 yX10_keep wsX10_keep) := goodIn_app (goodIn_of _ (by decide +kernel)) ggX10_loose_X10_keep
theorem dX10_loose_15 : decode cX10_loose 15 = .ok (.invokevirtual 134, 3) := by decide +kernel
theorem dX10_loose_18 : decode cX10_loose 18 = .ok (.aload_n 0, 1) := by decide +kernel
theorem dX10_loose_19 : decode cX10_loose 19 = .ok (.dup, 1) := by decide +kernel
theorem dX10_loose_20 : decode cX10_loose 20 = .ok (.getfield 85, 3) := by decide +kernel
theorem dX10_loose_23 : decode cX10_loose 23 = .ok (.iconst 1, 1) := by decide +kernel
theorem dX10_loose_24 : decode cX10_loose 24 = .ok (.isub, 1) := by decide +kernel
theorem dX10_loose_25 : decode cX10_loose 25 = .ok (.putfield 85, 3) := by decide +kernel
theorem dX10_loose_28 : decode cX10_loose 28 = .ok (.aload_n 0, 1) := by decide +kernel
theorem dX10_loose_29 : decode cX10_loose 29 = .ok (.getfield 85, 3) := by decide +kernel
theorem dX10_loose_32 : decode cX10_loose 32 = .ok (.ireturn, 1) := by decide +kernel
theorem dX10_loose_7 : decode cX10_loose 7 = .ok (.aload_n 0, 1) := by decide +kernel
theorem dX10_loose_8 : decode cX10_loose 8 = .ok (.ldc 98, 2) := by decide +kernel
set_option maxRecDepth 20000 in
theorem ggX10_loose_X10_finding : GoodIn wsX10_loose wsX10_finding := goodIn_r _ [7, 8, 25, 26, 27, 28, 29, 30, 31, 32, 33, 34, 35, 36, 37, 38, 39, 40, 41, 42, 43, 44, 45, 46, 47, 48, 49, 50, 51, 52, 53, 54] (by decide +kernel) (by decide +kernel)
set_option maxRecDepth 20000 in
theorem gX10_loose_X10_finding : GoodIn wsX10_loose (wsV RX10 99 RX10 yX10_finding wsX10_finding) := goodIn_app (goodIn_of _ (by decide +kernel)) ggX10_loose_X10_finding
theorem dX10_loose_10 : decode cX10_loose 10 = .ok (.invokevirtual 99, 3) := by decide +kernel
theorem dX10_loose_13 : decode cX10_loose 13 = .ok (.ireturn, 1) := by decide +kernel
set_option maxRecDepth 20000 in
theorem ihX10_loose_10 : ∀ w ∈ u_ws RX10 TX10 30, w ∈ wsX10_loose := by decide +kernel
set_option maxHeartbeats 4000000 in
set_option maxRecDepth 100000 in
theorem t_X10_loose (l : Launch) (D : va_G) (cy : Nat → ClassId) (a : Nat → Nat) (sz : Nat) (J : Nat → Int64) (I : Nat → Int32) (R : Nat → Nat → Int32) (RJ : Nat → Nat → Int64)  (hM : MI I R) : Met l yX10_loose wsX10_loose ({ frames := 1, cells := 0, slots := 0, locals := 22 }) (va_Pc [.ref (a 0)] (PW D cy sz (MW cy a J I R RJ))) (va_Qi (fun r (u : MS) => ∃ (w0 : Int32), ∃ (w1 : Int32), ∃ (w2 : Int32), ∃ (w3 : Int32), ∃ (w4 : Nat → Int32), ∃ (w5 : Nat → Int32), ∃ (w6 : Nat → Int32), ∃ (w7 : Nat → Int64), ∃ (w8 : Nat → Int64), ∃ (w9 : Nat → Int64), ((vp_in w0 21) ∧ (isB w1) ∧ (vp_in w2 21) ∧ (∀ i, i < 20 → vp_in (w4 i) 21) ∧ (∀ i, i < 20 → isB (w6 i))) ∧ u = (J, (va_up (va_up (va_up (va_up I 1 w0) 3 w1) 12 w2) 13 w3), (va_up (va_up (va_up R 3 w4) 4 w5) 5 w6), (va_up (va_up (va_up RJ 2 w7) 6 w8) 7 w9))) (BW D (va_A (MW cy a J I R RJ) sz) (MWu cy a)) (va_A (MW cy a J I R RJ) sz)) 0 0 (va_A (MW cy a J I R RJ) sz) := by
  refine Met.ofW (cc := cX10_loose) (maxL := 1) (ret := (some .int)) (by decide) rfl ?_
  intro p e s m args below meth c s₁ B hml hv
  obtain ⟨rfl, rfl, hP, hK, hN, hD0⟩ := hv
  have hx := B.exec
  have hb := B.bytes
  have hr := B.returns
  have hts := atoms_spec (ws := wsX10_loose) B.pre
  have hown : s.vm.findClass RX10 = some m.cls := findClass_of_methodNamed B.named
  have hlocks := B.notSynchronized
  have hw0 := hts (.fieldLink RX10 85 "ParquetLayerModel" "stones" "I") (by decide +kernel)
  have hw1 := hts (.constant RX10 98 (-100006)) (by decide +kernel)
  have hi10 := ihX10_loose_10
  have hD := hD0.self (sz := s.heap.size)
  generalize hAe : va_A (MW cy a J I R RJ) s.heap.size = A at hD ⊢
  have hA : ∀ q : Nat, s.heap.size ≤ q → A q := fun q h => by rw [← hAe]; exact Or.inr h
  have hS : va_S A s.heap s.heap [] := va_S.rf
  have hl := lv_entry ([.ref (a 0)]) (n := 1) (Nat.le_of_ble_eq_true rfl)
  rw [lg_entry_eq]
  generalize (lg_sl ([.ref (a 0)]) ++ List.replicate (1 - (lg_sl ([.ref (a 0)])).length) Slot.unset).toArray = ls at hl ⊢
  have hl : lv_has ls 1 [(0, .ref (a 0))] := hl
  have hP : va_P D vwCl (MW cy a J (va_up (va_up (va_up (va_up I 1 (I 1)) 3 (I 3)) 12 (I 12)) 13 (I 13)) (va_up (va_up (va_up R 3 (R 3)) 4 (R 4)) 5 (R 5)) (va_up (va_up (va_up RJ 2 (RJ 2)) 6 (RJ 6)) 7 (RJ 7))) s.heap := hP
  have hD : va_D A (MW cy a J (va_up (va_up (va_up (va_up I 1 (I 1)) 3 (I 3)) 12 (I 12)) 13 (I 13)) (va_up (va_up (va_up R 3 (R 3)) 4 (R 4)) 5 (R 5)) (va_up (va_up (va_up RJ 2 (RJ 2)) 6 (RJ 6)) 7 (RJ 7))) := hD
  refine lv_aload_n hx hb dX10_loose_0 rfl (lv_at hl 0 rfl) ?_
  refine va_get (D := D) (ci := 9) (v := .int (I 1)) (C := RX10) (T := TX10) (N := 30) hx hb hts hi10 hown hK hP 0 rfl rfl 1 (by decide) hw0 (fun _ h9 => h9) rfl dX10_loose_1 ?_
  refine lv_if_ne (tgt := 14) hx hb dX10_loose_4 (by decide) (fun c_1 => ?_) (fun c_1 => ?_)
  · refine lv_aload_n hx hb dX10_loose_14 rfl (lv_at hl 0 rfl) ?_
    refine kM_v (As := []) (rest := []) (q0 := 0) ⟨hx, hb, hml, hown, hts⟩ (t_X10_keep l D cy a _ J (va_up (va_up (va_up (va_up I 1 (I 1)) 3 (I 3)) 12 (I 12)) 13 (I 13)) (va_up (va_up (va_up R 3 (R 3)) 4 (R 4)) 5 (R 5)) (va_up (va_up (va_up RJ 2 (RJ 2)) 6 (RJ 6)) 7 (RJ 7))   ⟨hM.1, hM.2.1, hM.2.2.1, hM.2.2.2.1, hM.2.2.2.2.1, hM.2.2.2.2.2⟩) (cwV 0 hts gX10_loose_X10_keep rfl rfl rfl (by decide +kernel) ⟨Nat.le_of_ble_eq_true rfl, Nat.le_of_ble_eq_true rfl⟩) hK hN hP hD hS hA rfl rfl rfl hl.1 rfl (Nat.le_of_ble_eq_true rfl) dX10_loose_15 ⟨Nat.le_of_ble_eq_true rfl, Nat.le_of_ble_eq_true rfl⟩ (fun u H locs hw hP hD hS => ?_)
    obtain ⟨w_3, w_4, w_5, w_6, w_7, w_8, w_9, w_10, ⟨hi_11, hi_12, hi_13, hi_14⟩, rfl⟩ := hw
    have hP : va_P D vwCl (MW cy a J (va_up (va_up (va_up (va_up I 1 (I 1)) 3 w_3) 12 w_4) 13 (I 13)) (va_up (va_up (va_up R 3 w_5) 4 w_6) 5 w_7) (va_up (va_up (va_up RJ 2 w_8) 6 w_9) 7 w_10)) H := hP
    have hD : va_D A (MW cy a J (va_up (va_up (va_up (va_up I 1 (I 1)) 3 w_3) 12 w_4) 13 (I 13)) (va_up (va_up (va_up R 3 w_5) 4 w_6) 5 w_7) (va_up (va_up (va_up RJ 2 w_8) 6 w_9) 7 w_10)) := hD
    refine lv_aload_n hx hb dX10_loose_18 rfl (lv_at hl 0 rfl) ?_
    refine lv_dup hx hb dX10_loose_19 rfl ?_
    refine va_get (D := D) (ci := 9) (v := .int (I 1)) (C := RX10) (T := TX10) (N := 30) hx hb hts hi10 hown hK hP 0 rfl rfl 1 (by decide) hw0 (fun _ h9 => h9) rfl dX10_loose_20 ?_
    refine lv_iconst (v := 1) hx hb dX10_loose_23 (by decide) ?_
    refine lv_isub hx hb dX10_loose_24 ?_
    refine va_put (D := D) (ci := 9) (v := .int ((I 1) - 1)) (ty := .int) (C := RX10) (T := TX10) (N := 30) hx hb hts hi10 tyX10 tyX10_ok nmX10 hown hK hP hD hS 0 rfl rfl 1 (by decide) hw0 (fun _ h9 => h9) rfl (by decide +kernel) rfl rfl (Nat.le_of_ble_eq_true rfl) dX10_loose_25 (fun H locs hP hD hS => ?_)
    have hP : va_P D vwCl (MW cy a J (va_up (va_up (va_up (va_up I 1 ((I 1) - 1)) 3 w_3) 12 w_4) 13 (I 13)) (va_up (va_up (va_up R 3 w_5) 4 w_6) 5 w_7) (va_up (va_up (va_up RJ 2 w_8) 6 w_9) 7 w_10)) H := hP
    have hD : va_D A (MW cy a J (va_up (va_up (va_up (va_up I 1 ((I 1) - 1)) 3 w_3) 12 w_4) 13 (I 13)) (va_up (va_up (va_up R 3 w_5) 4 w_6) 5 w_7) (va_up (va_up (va_up RJ 2 w_8) 6 w_9) 7 w_10)) := hD
    have hi_15 : vp_in ((I 1) - 1) 21 := in_up (in_pred hM.1 c_1)
    refine lv_aload_n hx hb dX10_loose_28 rfl (lv_at hl 0 rfl) ?_
    refine va_get (D := D) (ci := 9) (v := .int ((I 1) - 1)) (C := RX10) (T := TX10) (N := 30) hx hb hts hi10 hown hK hP 0 rfl rfl 1 (by decide) hw0 (fun _ h9 => h9) rfl dX10_loose_29 ?_
    exact wret_i hx hb hr hlocks (J, (va_up (va_up (va_up (va_up I 1 ((I 1) - 1)) 3 w_3) 12 w_4) 13 (I 13)), (va_up (va_up (va_up R 3 w_5) 4 w_6) 5 w_7), (va_up (va_up (va_up RJ 2 w_8) 6 w_9) 7 w_10)) ⟨((I 1) - 1), w_3, w_4, (I 13), w_5, w_6, w_7, w_8, w_9, w_10, ⟨hi_15, hi_11, hi_12, hi_13, hi_14⟩, rfl⟩ hP hD hS dX10_loose_32
  · refine lv_aload_n hx hb dX10_loose_7 rfl (lv_at hl 0 rfl) ?_
    refine lv_ldc (v := (-100006)) hx hb hown hw1 dX10_loose_8 ?_
    refine kM_i (As := [.int (-100006)]) (rest := []) (q0 := 0) ⟨hx, hb, hml, hown, hts⟩ (c_X10_finding l D cy a _ J (va_up (va_up (va_up (va_up I 1 (I 1)) 3 (I 3)) 12 (I 12)) 13 (I 13)) (va_up (va_up (va_up R 3 (R 3)) 4 (R 4)) 5 (R 5)) (va_up (va_up (va_up RJ 2 (RJ 2)) 6 (RJ 6)) 7 (RJ 7)) (-100006) ) (cwV 1 hts gX10_loose_X10_finding rfl rfl rfl (by decide +kernel) ⟨Nat.le_of_ble_eq_true rfl, Nat.le_of_ble_eq_true rfl⟩) hK hN hP hD hS hA rfl rfl rfl hl.1 rfl (Nat.le_of_ble_eq_true rfl) dX10_loose_10 ⟨Nat.le_of_ble_eq_true rfl, Nat.le_of_ble_eq_true rfl⟩ (fun r_16 u H locs hw hP hD hS => ?_)
    obtain ⟨rfl, rfl⟩ := hw
    have hP : va_P D vwCl (MW cy a J (va_up (va_up (va_up (va_up I 1 (I 1)) 3 (I 3)) 12 (I 12)) 13 ((I 13) + 1)) (va_up (va_up (va_up R 3 (R 3)) 4 (R 4)) 5 (R 5)) (va_up (va_up (va_up RJ 2 (RJ 2)) 6 (RJ 6)) 7 (RJ 7))) H := hP
    have hD : va_D A (MW cy a J (va_up (va_up (va_up (va_up I 1 (I 1)) 3 (I 3)) 12 (I 12)) 13 ((I 13) + 1)) (va_up (va_up (va_up R 3 (R 3)) 4 (R 4)) 5 (R 5)) (va_up (va_up (va_up RJ 2 (RJ 2)) 6 (RJ 6)) 7 (RJ 7))) := hD
    exact wret_i hx hb hr hlocks (J, (va_up (va_up (va_up (va_up I 1 (I 1)) 3 (I 3)) 12 (I 12)) 13 ((I 13) + 1)), (va_up (va_up (va_up R 3 (R 3)) 4 (R 4)) 5 (R 5)), (va_up (va_up (va_up RJ 2 (RJ 2)) 6 (RJ 6)) 7 (RJ 7))) ⟨(I 1), (I 3), (I 12), ((I 13) + 1), (R 3), (R 4), (R 5), (RJ 2), (RJ 6), (RJ 7), ⟨hM.1, hM.2.1, hM.2.2.1, hM.2.2.2.1, hM.2.2.2.2.1⟩, rfl⟩ hP hD hS dX10_loose_13
theorem dX10_as_0 : decode cX10_as 0 = .ok (.aload_n 0, 1) := by decide +kernel
theorem dX10_as_1 : decode cX10_as 1 = .ok (.iload_n 1, 1) := by decide +kernel
set_option maxRecDepth 20000 in
theorem ggX10_as_X10_isStone : GoodIn wsX10_as wsX10_isStone := goodIn_r _ [7, 8, 9, 10, 6, 11, 22, 23, 24, 25, 26, 27, 28, 29, 30, 31, 32, 33, 34, 35, 36, 37, 38, 39, 40, 41, 42, 43, 44, 45, 46, 47, 48, 49, 50, 51] (by decide +kernel) (by decide +kernel)
set_option maxRecDepth 20000 in
theorem gX10_as_X10_isStone : GoodIn wsX10_as (wsV RX10 178 RX10 yX10_isStone wsX10_isStone) := goodIn_app (goodIn_of _ (by decide +kernel)) ggX10_as_X10_isStone
theorem dX10_as_2 : decode cX10_as 2 = .ok (.invokevirtual 178, 3) := by decide +kernel
theorem dX10_as_5 : decode cX10_as 5 = .ok (.ifCond .eq 12, 3) := by decide +kernel
theorem dX10_as_17 : decode cX10_as 17 = .ok (.aload_n 0, 1) := by decide +kernel
theorem dX10_as_18 : decode cX10_as 18 = .ok (.ldc 141, 2) := by decide +kernel
set_option maxRecDepth 20000 in
theorem ggX10_as_X10_finding : GoodIn wsX10_as wsX10_finding := goodIn_r _ [15, 16, 22, 23, 24, 25, 26, 27, 28, 29, 30, 31, 32, 33, 34, 35, 36, 37, 38, 39, 40, 41, 42, 43, 44, 45, 46, 47, 48, 49, 50, 51] (by decide +kernel) (by decide +kernel)
set_option maxRecDepth 20000 in
theorem gX10_as_X10_finding : GoodIn wsX10_as (wsV RX10 99 RX10 yX10_finding wsX10_finding) := goodIn_app (goodIn_of _ (by decide +kernel)) ggX10_as_X10_finding
theorem dX10_as_20 : decode cX10_as 20 = .ok (.invokevirtual 99, 3) := by decide +kernel
theorem dX10_as_23 : decode cX10_as 23 = .ok (.ireturn, 1) := by decide +kernel
theorem dX10_as_8 : decode cX10_as 8 = .ok (.iload_n 2, 1) := by decide +kernel
theorem dX10_as_9 : decode cX10_as 9 = .ok (.iconst 0, 1) := by decide +kernel
theorem dX10_as_10 : decode cX10_as 10 = .ok (.iconst 3, 1) := by decide +kernel
set_option maxRecDepth 20000 in
theorem ggX10_as_X10_within : GoodIn wsX10_as wsX10_within := goodIn_r _ [11] (by decide +kernel) (by decide +kernel)
set_option maxRecDepth 20000 in
theorem gX10_as_X10_within : GoodIn wsX10_as (va_wsS RX10 70 yX10_within wsX10_within) := goodIn_app (goodIn_of _ (by decide +kernel)) ggX10_as_X10_within
theorem dX10_as_11 : decode cX10_as 11 = .ok (.invokestatic 70, 3) := by decide +kernel
theorem dX10_as_14 : decode cX10_as 14 = .ok (.ifCond .ne 10, 3) := by decide +kernel
theorem dX10_as_24 : decode cX10_as 24 = .ok (.aload_n 0, 1) := by decide +kernel
theorem dX10_as_25 : decode cX10_as 25 = .ok (.iload_n 1, 1) := by decide +kernel
set_option maxRecDepth 20000 in
theorem ggX10_as_X10_kindOf : GoodIn wsX10_as wsX10_kindOf := goodIn_r _ [20, 21, 22, 23, 24, 25, 26, 27, 28, 29, 30, 31, 32, 33, 34, 35, 36, 37, 38, 39, 40, 41, 42, 43, 44, 45, 46, 47, 48, 49, 50, 51] (by decide +kernel) (by decide +kernel)
set_option maxRecDepth 20000 in
theorem gX10_as_X10_kindOf : GoodIn wsX10_as (wsV RX10 103 RX10 yX10_kindOf wsX10_kindOf) := goodIn_app (goodIn_of _ (by decide +kernel)) ggX10_as_X10_kindOf
theorem dX10_as_26 : decode cX10_as 26 = .ok (.invokevirtual 103, 3) := by decide +kernel
theorem dX10_as_29 : decode cX10_as 29 = .ok (.istore_n 3, 1) := by decide +kernel
theorem dX10_as_30 : decode cX10_as 30 = .ok (.iload_n 2, 1) := by decide +kernel
theorem dX10_as_31 : decode cX10_as 31 = .ok (.ifCond .eq 18, 3) := by decide +kernel
theorem dX10_as_49 : decode cX10_as 49 = .ok (.iload_n 1, 1) := by decide +kernel
theorem dX10_as_50 : decode cX10_as 50 = .ok (.goto 9, 3) := by decide +kernel
theorem dX10_as_59 : decode cX10_as 59 = .ok (.ireturn, 1) := by decide +kernel
theorem dX10_as_34 : decode cX10_as 34 = .ok (.iload_n 3, 1) := by decide +kernel
theorem dX10_as_35 : decode cX10_as 35 = .ok (.iload_n 2, 1) := by decide +kernel
theorem dX10_as_36 : decode cX10_as 36 = .ok (.if_icmp .eq 13, 3) := by decide +kernel
theorem dX10_as_39 : decode cX10_as 39 = .ok (.iload_n 2, 1) := by decide +kernel
theorem dX10_as_40 : decode cX10_as 40 = .ok (.iconst 1, 1) := by decide +kernel
theorem dX10_as_41 : decode cX10_as 41 = .ok (.if_icmp .ne 12, 3) := by decide +kernel
theorem dX10_as_53 : decode cX10_as 53 = .ok (.aload_n 0, 1) := by decide +kernel
theorem dX10_as_54 : decode cX10_as 54 = .ok (.ldc 133, 2) := by decide +kernel
theorem dX10_as_56 : decode cX10_as 56 = .ok (.invokevirtual 99, 3) := by decide +kernel
theorem dX10_as_44 : decode cX10_as 44 = .ok (.iload_n 3, 1) := by decide +kernel
theorem dX10_as_45 : decode cX10_as 45 = .ok (.iconst 2, 1) := by decide +kernel
theorem dX10_as_46 : decode cX10_as 46 = .ok (.if_icmp .ne 7, 3) := by decide +kernel
set_option maxHeartbeats 4000000 in
set_option maxRecDepth 100000 in
theorem t_X10_as (l : Launch) (D : va_G) (cy : Nat → ClassId) (a : Nat → Nat) (sz : Nat) (J : Nat → Int64) (I : Nat → Int32) (R : Nat → Nat → Int32) (RJ : Nat → Nat → Int64) (x0 : Int32) (x1 : Int32) (hM : MI I R) : Met l yX10_as wsX10_as ({ frames := 2, cells := 0, slots := 0, locals := 43 }) (va_Pc [.ref (a 0), .int x0, .int x1] (PW D cy sz (MW cy a J I R RJ))) (va_Qi (fun r (u : MS) => ∃ (w0 : Int32), (True) ∧ u = (J, (va_up I 13 w0), R, RJ)) (BW D (va_A (MW cy a J I R RJ) sz) (MWu cy a)) (va_A (MW cy a J I R RJ) sz)) 0 0 (va_A (MW cy a J I R RJ) sz) := by
  refine Met.ofW (cc := cX10_as) (maxL := 4) (ret := (some .int)) (by decide) rfl ?_
  intro p e s m args below meth c s₁ B hml hv
  obtain ⟨rfl, rfl, hP, hK, hN, hD0⟩ := hv
  have hx := B.exec
  have hb := B.bytes
  have hr := B.returns
  have hts := atoms_spec (ws := wsX10_as) B.pre
  have hown : s.vm.findClass RX10 = some m.cls := findClass_of_methodNamed B.named
  have hlocks := B.notSynchronized
  have hw0 := hts (.constant RX10 141 (-100001)) (by decide +kernel)
  have hw1 := hts (.constant RX10 133 (-100004)) (by decide +kernel)
  have hD := hD0.self (sz := s.heap.size)
  generalize hAe : va_A (MW cy a J I R RJ) s.heap.size = A at hD ⊢
  have hA : ∀ q : Nat, s.heap.size ≤ q → A q := fun q h => by rw [← hAe]; exact Or.inr h
  have hS : va_S A s.heap s.heap [] := va_S.rf
  have hl := lv_entry ([.ref (a 0), .int x0, .int x1]) (n := 4) (Nat.le_of_ble_eq_true rfl)
  rw [lg_entry_eq]
  generalize (lg_sl ([.ref (a 0), .int x0, .int x1]) ++ List.replicate (4 - (lg_sl ([.ref (a 0), .int x0, .int x1])).length) Slot.unset).toArray = ls at hl ⊢
  have hl : lv_has ls 4 [(0, .ref (a 0)), (1, .int x0), (2, .int x1)] := hl
  have hP : va_P D vwCl (MW cy a J (va_up I 13 (I 13)) R RJ) s.heap := hP
  have hD : va_D A (MW cy a J (va_up I 13 (I 13)) R RJ) := hD
  refine lv_aload_n hx hb dX10_as_0 rfl (lv_at hl 0 rfl) ?_
  refine lv_iload_n hx hb dX10_as_1 rfl (lv_at hl 1 rfl) ?_
  refine kR_i (As := [.int x0]) (rest := []) (q0 := 0) ⟨hx, hb, hml, hown, hts⟩ (c_X10_isStone l D cy a _ J (va_up I 13 (I 13)) R RJ x0 ) (cwV 1 hts gX10_as_X10_isStone rfl rfl rfl (by decide +kernel) ⟨Nat.le_of_ble_eq_true rfl, Nat.le_of_ble_eq_true rfl⟩) hK hN hP hD rfl rfl rfl hl.1 rfl (Nat.le_of_ble_eq_true rfl) dX10_as_2 ⟨Nat.le_of_ble_eq_true rfl, Nat.le_of_ble_eq_true rfl⟩ ?_
  refine lv_if_eq (tgt := 17) hx hb dX10_as_5 (by decide) (fun c_1 => ?_) (fun c_1 => ?_)
  · replace c_1 := bI_f c_1
    refine lv_aload_n hx hb dX10_as_17 rfl (lv_at hl 0 rfl) ?_
    refine lv_ldc (v := (-100001)) hx hb hown hw0 dX10_as_18 ?_
    refine kM_i (As := [.int (-100001)]) (rest := []) (q0 := 0) ⟨hx, hb, hml, hown, hts⟩ (c_X10_finding l D cy a _ J (va_up I 13 (I 13)) R RJ (-100001) ) (cwV 1 hts gX10_as_X10_finding rfl rfl rfl (by decide +kernel) ⟨Nat.le_of_ble_eq_true rfl, Nat.le_of_ble_eq_true rfl⟩) hK hN hP hD hS hA rfl rfl rfl hl.1 rfl (Nat.le_of_ble_eq_true rfl) dX10_as_20 ⟨Nat.le_of_ble_eq_true rfl, Nat.le_of_ble_eq_true rfl⟩ (fun r_2 u H locs hw hP hD hS => ?_)
    obtain ⟨rfl, rfl⟩ := hw
    have hP : va_P D vwCl (MW cy a J (va_up I 13 ((I 13) + 1)) R RJ) H := hP
    have hD : va_D A (MW cy a J (va_up I 13 ((I 13) + 1)) R RJ) := hD
    exact wret_i hx hb hr hlocks (J, (va_up I 13 ((I 13) + 1)), R, RJ) ⟨((I 13) + 1), trivial, rfl⟩ hP hD hS dX10_as_23
  · replace c_1 := bI_t c_1
    refine lv_iload_n hx hb dX10_as_8 rfl (lv_at hl 2 rfl) ?_
    refine lv_iconst (v := 0) hx hb dX10_as_9 (by decide) ?_
    refine lv_iconst (v := 3) hx hb dX10_as_10 (by decide) ?_
    refine kS_i (As := [.int x1, .int 0, .int 3]) (rest := []) ⟨hx, hb, hml, hown, hts⟩ (c_X10_within l x1 0 3) (va_cwS 3 hts gX10_as_X10_within rfl rfl rfl (by decide +kernel) ⟨Nat.le_of_ble_eq_true rfl, Nat.le_of_ble_eq_true rfl⟩) rfl hl.1 rfl (Nat.le_of_ble_eq_true rfl) dX10_as_11 ⟨Nat.le_of_ble_eq_true rfl, Nat.le_of_ble_eq_true rfl⟩ ?_
    refine lv_if_ne (tgt := 24) hx hb dX10_as_14 (by decide) (fun c_3 => ?_) (fun c_3 => ?_)
    · replace c_3 := bI_t c_3
      refine lv_aload_n hx hb dX10_as_24 rfl (lv_at hl 0 rfl) ?_
      refine lv_iload_n hx hb dX10_as_25 rfl (lv_at hl 1 rfl) ?_
      refine kR_i (As := [.int x0]) (rest := []) (q0 := 0) ⟨hx, hb, hml, hown, hts⟩ (c_X10_kindOf l D cy a _ J (va_up I 13 (I 13)) R RJ x0 (st_in hM.1 c_1)) (cwV 1 hts gX10_as_X10_kindOf rfl rfl rfl (by decide +kernel) ⟨Nat.le_of_ble_eq_true rfl, Nat.le_of_ble_eq_true rfl⟩) hK hN hP hD rfl rfl rfl hl.1 rfl (Nat.le_of_ble_eq_true rfl) dX10_as_26 ⟨Nat.le_of_ble_eq_true rfl, Nat.le_of_ble_eq_true rfl⟩ ?_
      refine lv_istore_n (lv' := [(3, .int (((R 1) x0.toNatClampNeg) &&& 3)), (0, .ref (a 0)), (1, .int x0), (2, .int x1)]) hx hb dX10_as_29 rfl hl (by decide) rfl (fun ls hl => ?_)
      refine lv_iload_n hx hb dX10_as_30 rfl (lv_at hl 3 rfl) ?_
      refine lv_if_eq (tgt := 49) hx hb dX10_as_31 (by decide) (fun c_4 => ?_) (fun c_4 => ?_)
      · refine lv_iload_n hx hb dX10_as_49 rfl (lv_at hl 2 rfl) ?_
        refine lv_goto (tgt := 59) hx hb dX10_as_50 (by decide) ?_
        exact wret_i hx hb hr hlocks (J, (va_up I 13 (I 13)), R, RJ) ⟨(I 13), trivial, rfl⟩ hP hD hS dX10_as_59
      · refine lv_iload_n hx hb dX10_as_34 rfl (lv_at hl 0 rfl) ?_
        refine lv_iload_n hx hb dX10_as_35 rfl (lv_at hl 3 rfl) ?_
        refine lv_icmp_eq (tgt := 49) hx hb dX10_as_36 (by decide) (fun c_5 => ?_) (fun c_5 => ?_)
        · refine lv_iload_n hx hb dX10_as_49 rfl (lv_at hl 2 rfl) ?_
          refine lv_goto (tgt := 59) hx hb dX10_as_50 (by decide) ?_
          exact wret_i hx hb hr hlocks (J, (va_up I 13 (I 13)), R, RJ) ⟨(I 13), trivial, rfl⟩ hP hD hS dX10_as_59
        · refine lv_iload_n hx hb dX10_as_39 rfl (lv_at hl 3 rfl) ?_
          refine lv_iconst (v := 1) hx hb dX10_as_40 (by decide) ?_
          refine lv_icmp_ne (tgt := 53) hx hb dX10_as_41 (by decide) (fun c_6 => ?_) (fun c_6 => ?_)
          · refine lv_aload_n hx hb dX10_as_53 rfl (lv_at hl 1 rfl) ?_
            refine lv_ldc (v := (-100004)) hx hb hown hw1 dX10_as_54 ?_
            refine kM_i (As := [.int (-100004)]) (rest := []) (q0 := 0) ⟨hx, hb, hml, hown, hts⟩ (c_X10_finding l D cy a _ J (va_up I 13 (I 13)) R RJ (-100004) ) (cwV 1 hts gX10_as_X10_finding rfl rfl rfl (by decide +kernel) ⟨Nat.le_of_ble_eq_true rfl, Nat.le_of_ble_eq_true rfl⟩) hK hN hP hD hS hA rfl rfl rfl hl.1 rfl (Nat.le_of_ble_eq_true rfl) dX10_as_56 ⟨Nat.le_of_ble_eq_true rfl, Nat.le_of_ble_eq_true rfl⟩ (fun r_7 u H locs hw hP hD hS => ?_)
            obtain ⟨rfl, rfl⟩ := hw
            have hP : va_P D vwCl (MW cy a J (va_up I 13 ((I 13) + 1)) R RJ) H := hP
            have hD : va_D A (MW cy a J (va_up I 13 ((I 13) + 1)) R RJ) := hD
            exact wret_i hx hb hr hlocks (J, (va_up I 13 ((I 13) + 1)), R, RJ) ⟨((I 13) + 1), trivial, rfl⟩ hP hD hS dX10_as_59
          · refine lv_iload_n hx hb dX10_as_44 rfl (lv_at hl 0 rfl) ?_
            refine lv_iconst (v := 2) hx hb dX10_as_45 (by decide) ?_
            refine lv_icmp_ne (tgt := 53) hx hb dX10_as_46 (by decide) (fun c_8 => ?_) (fun c_8 => ?_)
            · refine lv_aload_n hx hb dX10_as_53 rfl (lv_at hl 1 rfl) ?_
              refine lv_ldc (v := (-100004)) hx hb hown hw1 dX10_as_54 ?_
              refine kM_i (As := [.int (-100004)]) (rest := []) (q0 := 0) ⟨hx, hb, hml, hown, hts⟩ (c_X10_finding l D cy a _ J (va_up I 13 (I 13)) R RJ (-100004) ) (cwV 1 hts gX10_as_X10_finding rfl rfl rfl (by decide +kernel) ⟨Nat.le_of_ble_eq_true rfl, Nat.le_of_ble_eq_true rfl⟩) hK hN hP hD hS hA rfl rfl rfl hl.1 rfl (Nat.le_of_ble_eq_true rfl) dX10_as_56 ⟨Nat.le_of_ble_eq_true rfl, Nat.le_of_ble_eq_true rfl⟩ (fun r_9 u H locs hw hP hD hS => ?_)
              obtain ⟨rfl, rfl⟩ := hw
              have hP : va_P D vwCl (MW cy a J (va_up I 13 ((I 13) + 1)) R RJ) H := hP
              have hD : va_D A (MW cy a J (va_up I 13 ((I 13) + 1)) R RJ) := hD
              exact wret_i hx hb hr hlocks (J, (va_up I 13 ((I 13) + 1)), R, RJ) ⟨((I 13) + 1), trivial, rfl⟩ hP hD hS dX10_as_59
            · refine lv_iload_n hx hb dX10_as_49 rfl (lv_at hl 2 rfl) ?_
              refine lv_goto (tgt := 59) hx hb dX10_as_50 (by decide) ?_
              exact wret_i hx hb hr hlocks (J, (va_up I 13 (I 13)), R, RJ) ⟨(I 13), trivial, rfl⟩ hP hD hS dX10_as_59
    · replace c_3 := bI_f c_3
      refine lv_aload_n hx hb dX10_as_17 rfl (lv_at hl 0 rfl) ?_
      refine lv_ldc (v := (-100001)) hx hb hown hw0 dX10_as_18 ?_
      refine kM_i (As := [.int (-100001)]) (rest := []) (q0 := 0) ⟨hx, hb, hml, hown, hts⟩ (c_X10_finding l D cy a _ J (va_up I 13 (I 13)) R RJ (-100001) ) (cwV 1 hts gX10_as_X10_finding rfl rfl rfl (by decide +kernel) ⟨Nat.le_of_ble_eq_true rfl, Nat.le_of_ble_eq_true rfl⟩) hK hN hP hD hS hA rfl rfl rfl hl.1 rfl (Nat.le_of_ble_eq_true rfl) dX10_as_20 ⟨Nat.le_of_ble_eq_true rfl, Nat.le_of_ble_eq_true rfl⟩ (fun r_10 u H locs hw hP hD hS => ?_)
      obtain ⟨rfl, rfl⟩ := hw
      have hP : va_P D vwCl (MW cy a J (va_up I 13 ((I 13) + 1)) R RJ) H := hP
      have hD : va_D A (MW cy a J (va_up I 13 ((I 13) + 1)) R RJ) := hD
      exact wret_i hx hb hr hlocks (J, (va_up I 13 ((I 13) + 1)), R, RJ) ⟨((I 13) + 1), trivial, rfl⟩ hP hD hS dX10_as_23
theorem dX10_told_0 : decode cX10_told 0 = .ok (.aload_n 0, 1) := by decide +kernel
theorem dX10_told_1 : decode cX10_told 1 = .ok (.iload_n 1, 1) := by decide +kernel
set_option maxRecDepth 20000 in
theorem ggX10_told_X10_isStone : GoodIn wsX10_told wsX10_isStone := goodIn_r _ [10, 11, 12, 13, 9, 14, 35, 36, 37, 38, 39, 40, 41, 42, 43, 44, 45, 46, 47, 48, 49, 50, 51, 52, 53, 54, 55, 56, 57, 58, 59, 60, 61, 62, 63, 64] (by decide +kernel) (by decide +kernel)
set_option maxRecDepth 20000 in
theorem gX10_told_X10_isStone : GoodIn wsX10_told (wsV RX10 178 RX10 yX10_isStone wsX10_isStone) := goodIn_app (goodIn_of _ (by decide +kernel)) ggX10_told_X10_isStone
theorem dX10_told_2 : decode cX10_told 2 = .ok (.invokevirtual 178, 3) := by decide +kernel
theorem dX10_told_5 : decode cX10_told 5 = .ok (.ifCond .eq 12, 3) := by decide +kernel
theorem dX10_told_17 : decode cX10_told 17 = .ok (.aload_n 0, 1) := by decide +kernel
theorem dX10_told_18 : decode cX10_told 18 = .ok (.ldc 141, 2) := by decide +kernel
set_option maxRecDepth 20000 in
theorem ggX10_told_X10_finding : GoodIn wsX10_told wsX10_finding := goodIn_r _ [18, 19, 35, 36, 37, 38, 39, 40, 41, 42, 43, 44, 45, 46, 47, 48, 49, 50, 51, 52, 53, 54, 55, 56, 57, 58, 59, 60, 61, 62, 63, 64] (by decide +kernel) (by decide +kernel)
set_option maxRecDepth 20000 in
theorem gX10_told_X10_finding : GoodIn wsX10_told (wsV RX10 99 RX10 yX10_finding wsX10_finding) := goodIn_app (goodIn_of _ (by decide +kernel)) ggX10_told_X10_finding
theorem dX10_told_20 : decode cX10_told 20 = .ok (.invokevirtual 99, 3) := by decide +kernel
theorem dX10_told_23 : decode cX10_told 23 = .ok (.ireturn, 1) := by decide +kernel
theorem dX10_told_8 : decode cX10_told 8 = .ok (.iload_n 2, 1) := by decide +kernel
theorem dX10_told_9 : decode cX10_told 9 = .ok (.iconst 0, 1) := by decide +kernel
theorem dX10_told_10 : decode cX10_told 10 = .ok (.iconst 4, 1) := by decide +kernel
set_option maxRecDepth 20000 in
theorem ggX10_told_X10_within : GoodIn wsX10_told wsX10_within := goodIn_r _ [14] (by decide +kernel) (by decide +kernel)
set_option maxRecDepth 20000 in
theorem gX10_told_X10_within : GoodIn wsX10_told (va_wsS RX10 70 yX10_within wsX10_within) := goodIn_app (goodIn_of _ (by decide +kernel)) ggX10_told_X10_within
theorem dX10_told_11 : decode cX10_told 11 = .ok (.invokestatic 70, 3) := by decide +kernel
theorem dX10_told_14 : decode cX10_told 14 = .ok (.ifCond .ne 10, 3) := by decide +kernel
theorem dX10_told_24 : decode cX10_told 24 = .ok (.iload_n 2, 1) := by decide +kernel
theorem dX10_told_25 : decode cX10_told 25 = .ok (.tableswitch 67 0 3 #[31, 37, 43, 57], 31) := by decide +kernel
theorem dX10_told_56 : decode cX10_told 56 = .ok (.aload_n 0, 1) := by decide +kernel
theorem dX10_told_57 : decode cX10_told 57 = .ok (.iload_n 1, 1) := by decide +kernel
set_option maxRecDepth 20000 in
theorem ggX10_told_X10_kindOf : GoodIn wsX10_told wsX10_kindOf := goodIn_r _ [23, 2, 35, 36, 37, 38, 39, 40, 41, 42, 43, 44, 45, 46, 47, 48, 49, 50, 51, 52, 53, 54, 55, 56, 57, 58, 59, 60, 61, 62, 63, 64] (by decide +kernel) (by decide +kernel)
set_option maxRecDepth 20000 in
theorem gX10_told_X10_kindOf : GoodIn wsX10_told (wsV RX10 103 RX10 yX10_kindOf wsX10_kindOf) := goodIn_app (goodIn_of _ (by decide +kernel)) ggX10_told_X10_kindOf
theorem dX10_told_58 : decode cX10_told 58 = .ok (.invokevirtual 103, 3) := by decide +kernel
theorem dX10_told_61 : decode cX10_told 61 = .ok (.ireturn, 1) := by decide +kernel
theorem dX10_told_62 : decode cX10_told 62 = .ok (.aload_n 0, 1) := by decide +kernel
theorem dX10_told_63 : decode cX10_told 63 = .ok (.iload_n 1, 1) := by decide +kernel
set_option maxRecDepth 20000 in
theorem ggX10_told_X10_fieldOf : GoodIn wsX10_told wsX10_fieldOf := goodIn_r _ [27, 2, 35, 36, 37, 38, 39, 40, 41, 42, 43, 44, 45, 46, 47, 48, 49, 50, 51, 52, 53, 54, 55, 56, 57, 58, 59, 60, 61, 62, 63, 64] (by decide +kernel) (by decide +kernel)
set_option maxRecDepth 20000 in
theorem gX10_told_X10_fieldOf : GoodIn wsX10_told (wsV RX10 115 RX10 yX10_fieldOf wsX10_fieldOf) := goodIn_app (goodIn_of _ (by decide +kernel)) ggX10_told_X10_fieldOf
theorem dX10_told_64 : decode cX10_told 64 = .ok (.invokevirtual 115, 3) := by decide +kernel
theorem dX10_told_67 : decode cX10_told 67 = .ok (.ireturn, 1) := by decide +kernel
theorem dX10_told_68 : decode cX10_told 68 = .ok (.aload_n 0, 1) := by decide +kernel
theorem dX10_told_69 : decode cX10_told 69 = .ok (.iload_n 1, 1) := by decide +kernel
set_option maxRecDepth 20000 in
theorem ggX10_told_X10_isAcross : GoodIn wsX10_told wsX10_isAcross := goodIn_r _ [31, 2, 35, 36, 37, 38, 39, 40, 41, 42, 43, 44, 45, 46, 47, 48, 49, 50, 51, 52, 53, 54, 55, 56, 57, 58, 59, 60, 61, 62, 63, 64] (by decide +kernel) (by decide +kernel)
set_option maxRecDepth 20000 in
theorem gX10_told_X10_isAcross : GoodIn wsX10_told (wsV RX10 118 RX10 yX10_isAcross wsX10_isAcross) := goodIn_app (goodIn_of _ (by decide +kernel)) ggX10_told_X10_isAcross
theorem dX10_told_70 : decode cX10_told 70 = .ok (.invokevirtual 118, 3) := by decide +kernel
theorem dX10_told_73 : decode cX10_told 73 = .ok (.ifCond .eq 7, 3) := by decide +kernel
theorem dX10_told_80 : decode cX10_told 80 = .ok (.iconst 0, 1) := by decide +kernel
theorem dX10_told_81 : decode cX10_told 81 = .ok (.ireturn, 1) := by decide +kernel
theorem dX10_told_76 : decode cX10_told 76 = .ok (.iconst 1, 1) := by decide +kernel
theorem dX10_told_77 : decode cX10_told 77 = .ok (.goto 4, 3) := by decide +kernel
theorem dX10_told_82 : decode cX10_told 82 = .ok (.aload_n 0, 1) := by decide +kernel
theorem dX10_told_83 : decode cX10_told 83 = .ok (.getfield 9, 3) := by decide +kernel
theorem dX10_told_86 : decode cX10_told 86 = .ok (.iload_n 1, 1) := by decide +kernel
theorem dX10_told_87 : decode cX10_told 87 = .ok (.iaload, 1) := by decide +kernel
theorem dX10_told_88 : decode cX10_told 88 = .ok (.bipush 9, 2) := by decide +kernel
theorem dX10_told_90 : decode cX10_told 90 = .ok (.ishr, 1) := by decide +kernel
theorem dX10_told_91 : decode cX10_told 91 = .ok (.ireturn, 1) := by decide +kernel
theorem dX10_told_92 : decode cX10_told 92 = .ok (.aload_n 0, 1) := by decide +kernel
theorem dX10_told_93 : decode cX10_told 93 = .ok (.getfield 88, 3) := by decide +kernel
theorem dX10_told_96 : decode cX10_told 96 = .ok (.ifCond .ne 7, 3) := by decide +kernel
theorem dX10_told_103 : decode cX10_told 103 = .ok (.aload_n 0, 1) := by decide +kernel
theorem dX10_told_104 : decode cX10_told 104 = .ok (.iload_n 1, 1) := by decide +kernel
theorem dX10_told_105 : decode cX10_told 105 = .ok (.invokevirtual 118, 3) := by decide +kernel
theorem dX10_told_108 : decode cX10_told 108 = .ok (.ifCond .eq 10, 3) := by decide +kernel
theorem dX10_told_118 : decode cX10_told 118 = .ok (.aload_n 0, 1) := by decide +kernel
theorem dX10_told_119 : decode cX10_told 119 = .ok (.getfield 92, 3) := by decide +kernel
theorem dX10_told_122 : decode cX10_told 122 = .ok (.aload_n 0, 1) := by decide +kernel
theorem dX10_told_123 : decode cX10_told 123 = .ok (.iload_n 1, 1) := by decide +kernel
theorem dX10_told_124 : decode cX10_told 124 = .ok (.invokevirtual 115, 3) := by decide +kernel
set_option maxRecDepth 20000 in
theorem ggX10_told_X10_hasBit : GoodIn wsX10_told wsX10_hasBit := goodIn_r _ [34] (by decide +kernel) (by decide +kernel)
set_option maxRecDepth 20000 in
theorem gX10_told_X10_hasBit : GoodIn wsX10_told (va_wsS RX10 74 yX10_hasBit wsX10_hasBit) := goodIn_app (goodIn_of _ (by decide +kernel)) ggX10_told_X10_hasBit
theorem dX10_told_127 : decode cX10_told 127 = .ok (.invokestatic 74, 3) := by decide +kernel
theorem dX10_told_130 : decode cX10_told 130 = .ok (.ifCond .eq 7, 3) := by decide +kernel
theorem dX10_told_137 : decode cX10_told 137 = .ok (.iconst 0, 1) := by decide +kernel
theorem dX10_told_138 : decode cX10_told 138 = .ok (.ireturn, 1) := by decide +kernel
theorem dX10_told_133 : decode cX10_told 133 = .ok (.iconst 1, 1) := by decide +kernel
theorem dX10_told_134 : decode cX10_told 134 = .ok (.goto 4, 3) := by decide +kernel
theorem dX10_told_111 : decode cX10_told 111 = .ok (.aload_n 0, 1) := by decide +kernel
theorem dX10_told_112 : decode cX10_told 112 = .ok (.getfield 95, 3) := by decide +kernel
theorem dX10_told_115 : decode cX10_told 115 = .ok (.goto 7, 3) := by decide +kernel
theorem dX10_told_99 : decode cX10_told 99 = .ok (.iconst (-1), 1) := by decide +kernel
theorem dX10_told_100 : decode cX10_told 100 = .ok (.goto 38, 3) := by decide +kernel
set_option maxRecDepth 20000 in
theorem ihX10_told_10 : ∀ w ∈ u_ws RX10 TX10 30, w ∈ wsX10_told := by decide +kernel
set_option maxHeartbeats 4000000 in
set_option maxRecDepth 100000 in
theorem t_X10_told (l : Launch) (D : va_G) (cy : Nat → ClassId) (a : Nat → Nat) (sz : Nat) (J : Nat → Int64) (I : Nat → Int32) (R : Nat → Nat → Int32) (RJ : Nat → Nat → Int64) (x0 : Int32) (x1 : Int32) (hM : MI I R) : Met l yX10_told wsX10_told ({ frames := 2, cells := 0, slots := 0, locals := 43 }) (va_Pc [.ref (a 0), .int x0, .int x1] (PW D cy sz (MW cy a J I R RJ))) (va_Qi (fun r (u : MS) => ∃ (w0 : Int32), (True) ∧ u = (J, (va_up I 13 w0), R, RJ)) (BW D (va_A (MW cy a J I R RJ) sz) (MWu cy a)) (va_A (MW cy a J I R RJ) sz)) 0 0 (va_A (MW cy a J I R RJ) sz) := by
  refine Met.ofW (cc := cX10_told) (maxL := 3) (ret := (some .int)) (by decide) rfl ?_
  intro p e s m args below meth c s₁ B hml hv
  obtain ⟨rfl, rfl, hP, hK, hN, hD0⟩ := hv
  have hx := B.exec
  have hb := B.bytes
  have hr := B.returns
  have hts := atoms_spec (ws := wsX10_told) B.pre
  have hown : s.vm.findClass RX10 = some m.cls := findClass_of_methodNamed B.named
  have hlocks := B.notSynchronized
  have hw0 := hts (.constant RX10 141 (-100001)) (by decide +kernel)
  have hw1 := hts (.fieldLink RX10 9 "ParquetLayerModel" "stone" "[I") (by decide +kernel)
  have hw2 := hts (.fieldLink RX10 88 "ParquetLayerModel" "isLaid" "Z") (by decide +kernel)
  have hw3 := hts (.fieldLink RX10 92 "ParquetLayerModel" "along" "J") (by decide +kernel)
  have hw4 := hts (.fieldLink RX10 95 "ParquetLayerModel" "across" "J") (by decide +kernel)
  have hi10 := ihX10_told_10
  have hD := hD0.self (sz := s.heap.size)
  generalize hAe : va_A (MW cy a J I R RJ) s.heap.size = A at hD ⊢
  have hA : ∀ q : Nat, s.heap.size ≤ q → A q := fun q h => by rw [← hAe]; exact Or.inr h
  have hS : va_S A s.heap s.heap [] := va_S.rf
  have hl := lv_entry ([.ref (a 0), .int x0, .int x1]) (n := 3) (Nat.le_of_ble_eq_true rfl)
  rw [lg_entry_eq]
  generalize (lg_sl ([.ref (a 0), .int x0, .int x1]) ++ List.replicate (3 - (lg_sl ([.ref (a 0), .int x0, .int x1])).length) Slot.unset).toArray = ls at hl ⊢
  have hl : lv_has ls 3 [(0, .ref (a 0)), (1, .int x0), (2, .int x1)] := hl
  have hP : va_P D vwCl (MW cy a J (va_up I 13 (I 13)) R RJ) s.heap := hP
  have hD : va_D A (MW cy a J (va_up I 13 (I 13)) R RJ) := hD
  refine lv_aload_n hx hb dX10_told_0 rfl (lv_at hl 0 rfl) ?_
  refine lv_iload_n hx hb dX10_told_1 rfl (lv_at hl 1 rfl) ?_
  refine kR_i (As := [.int x0]) (rest := []) (q0 := 0) ⟨hx, hb, hml, hown, hts⟩ (c_X10_isStone l D cy a _ J (va_up I 13 (I 13)) R RJ x0 ) (cwV 1 hts gX10_told_X10_isStone rfl rfl rfl (by decide +kernel) ⟨Nat.le_of_ble_eq_true rfl, Nat.le_of_ble_eq_true rfl⟩) hK hN hP hD rfl rfl rfl hl.1 rfl (Nat.le_of_ble_eq_true rfl) dX10_told_2 ⟨Nat.le_of_ble_eq_true rfl, Nat.le_of_ble_eq_true rfl⟩ ?_
  refine lv_if_eq (tgt := 17) hx hb dX10_told_5 (by decide) (fun c_1 => ?_) (fun c_1 => ?_)
  · replace c_1 := bI_f c_1
    refine lv_aload_n hx hb dX10_told_17 rfl (lv_at hl 0 rfl) ?_
    refine lv_ldc (v := (-100001)) hx hb hown hw0 dX10_told_18 ?_
    refine kM_i (As := [.int (-100001)]) (rest := []) (q0 := 0) ⟨hx, hb, hml, hown, hts⟩ (c_X10_finding l D cy a _ J (va_up I 13 (I 13)) R RJ (-100001) ) (cwV 1 hts gX10_told_X10_finding rfl rfl rfl (by decide +kernel) ⟨Nat.le_of_ble_eq_true rfl, Nat.le_of_ble_eq_true rfl⟩) hK hN hP hD hS hA rfl rfl rfl hl.1 rfl (Nat.le_of_ble_eq_true rfl) dX10_told_20 ⟨Nat.le_of_ble_eq_true rfl, Nat.le_of_ble_eq_true rfl⟩ (fun r_2 u H locs hw hP hD hS => ?_)
    obtain ⟨rfl, rfl⟩ := hw
    have hP : va_P D vwCl (MW cy a J (va_up I 13 ((I 13) + 1)) R RJ) H := hP
    have hD : va_D A (MW cy a J (va_up I 13 ((I 13) + 1)) R RJ) := hD
    exact wret_i hx hb hr hlocks (J, (va_up I 13 ((I 13) + 1)), R, RJ) ⟨((I 13) + 1), trivial, rfl⟩ hP hD hS dX10_told_23
  · replace c_1 := bI_t c_1
    refine lv_iload_n hx hb dX10_told_8 rfl (lv_at hl 2 rfl) ?_
    refine lv_iconst (v := 0) hx hb dX10_told_9 (by decide) ?_
    refine lv_iconst (v := 4) hx hb dX10_told_10 (by decide) ?_
    refine kS_i (As := [.int x1, .int 0, .int 4]) (rest := []) ⟨hx, hb, hml, hown, hts⟩ (c_X10_within l x1 0 4) (va_cwS 3 hts gX10_told_X10_within rfl rfl rfl (by decide +kernel) ⟨Nat.le_of_ble_eq_true rfl, Nat.le_of_ble_eq_true rfl⟩) rfl hl.1 rfl (Nat.le_of_ble_eq_true rfl) dX10_told_11 ⟨Nat.le_of_ble_eq_true rfl, Nat.le_of_ble_eq_true rfl⟩ ?_
    refine lv_if_ne (tgt := 24) hx hb dX10_told_14 (by decide) (fun c_3 => ?_) (fun c_3 => ?_)
    · replace c_3 := bI_t c_3
      refine lv_iload_n hx hb dX10_told_24 rfl (lv_at hl 2 rfl) ?_
      by_cases c_4 : x1 = 0
      · refine lv_tableIn (off := 31) (tgt := 56) hx hb dX10_told_25 (by rw [c_4]; decide) (by rw [c_4]; decide) (by rw [c_4]; rfl) (by decide) ?_
        refine lv_aload_n hx hb dX10_told_56 rfl (lv_at hl 0 rfl) ?_
        refine lv_iload_n hx hb dX10_told_57 rfl (lv_at hl 1 rfl) ?_
        refine kR_i (As := [.int x0]) (rest := []) (q0 := 0) ⟨hx, hb, hml, hown, hts⟩ (c_X10_kindOf l D cy a _ J (va_up I 13 (I 13)) R RJ x0 (st_in hM.1 c_1)) (cwV 1 hts gX10_told_X10_kindOf rfl rfl rfl (by decide +kernel) ⟨Nat.le_of_ble_eq_true rfl, Nat.le_of_ble_eq_true rfl⟩) hK hN hP hD rfl rfl rfl hl.1 rfl (Nat.le_of_ble_eq_true rfl) dX10_told_58 ⟨Nat.le_of_ble_eq_true rfl, Nat.le_of_ble_eq_true rfl⟩ ?_
        exact wret_i hx hb hr hlocks (J, (va_up I 13 (I 13)), R, RJ) ⟨(I 13), trivial, rfl⟩ hP hD hS dX10_told_61
      by_cases c_5 : x1 = 1
      · refine lv_tableIn (off := 37) (tgt := 62) hx hb dX10_told_25 (by rw [c_5]; decide) (by rw [c_5]; decide) (by rw [c_5]; rfl) (by decide) ?_
        refine lv_aload_n hx hb dX10_told_62 rfl (lv_at hl 0 rfl) ?_
        refine lv_iload_n hx hb dX10_told_63 rfl (lv_at hl 1 rfl) ?_
        refine kR_i (As := [.int x0]) (rest := []) (q0 := 0) ⟨hx, hb, hml, hown, hts⟩ (c_X10_fieldOf l D cy a _ J (va_up I 13 (I 13)) R RJ x0 (st_in hM.1 c_1)) (cwV 1 hts gX10_told_X10_fieldOf rfl rfl rfl (by decide +kernel) ⟨Nat.le_of_ble_eq_true rfl, Nat.le_of_ble_eq_true rfl⟩) hK hN hP hD rfl rfl rfl hl.1 rfl (Nat.le_of_ble_eq_true rfl) dX10_told_64 ⟨Nat.le_of_ble_eq_true rfl, Nat.le_of_ble_eq_true rfl⟩ ?_
        exact wret_i hx hb hr hlocks (J, (va_up I 13 (I 13)), R, RJ) ⟨(I 13), trivial, rfl⟩ hP hD hS dX10_told_67
      by_cases c_6 : x1 = 2
      · refine lv_tableIn (off := 43) (tgt := 68) hx hb dX10_told_25 (by rw [c_6]; decide) (by rw [c_6]; decide) (by rw [c_6]; rfl) (by decide) ?_
        refine lv_aload_n hx hb dX10_told_68 rfl (lv_at hl 0 rfl) ?_
        refine lv_iload_n hx hb dX10_told_69 rfl (lv_at hl 1 rfl) ?_
        refine kR_i (As := [.int x0]) (rest := []) (q0 := 0) ⟨hx, hb, hml, hown, hts⟩ (c_X10_isAcross l D cy a _ J (va_up I 13 (I 13)) R RJ x0 (st_in hM.1 c_1)) (cwV 1 hts gX10_told_X10_isAcross rfl rfl rfl (by decide +kernel) ⟨Nat.le_of_ble_eq_true rfl, Nat.le_of_ble_eq_true rfl⟩) hK hN hP hD rfl rfl rfl hl.1 rfl (Nat.le_of_ble_eq_true rfl) dX10_told_70 ⟨Nat.le_of_ble_eq_true rfl, Nat.le_of_ble_eq_true rfl⟩ ?_
        refine lv_if_eq (tgt := 80) hx hb dX10_told_73 (by decide) (fun c_7 => ?_) (fun c_7 => ?_)
        · replace c_7 := bI_f c_7
          refine lv_iconst (v := 0) hx hb dX10_told_80 (by decide) ?_
          exact wret_i hx hb hr hlocks (J, (va_up I 13 (I 13)), R, RJ) ⟨(I 13), trivial, rfl⟩ hP hD hS dX10_told_81
        · replace c_7 := bI_t c_7
          refine lv_iconst (v := 1) hx hb dX10_told_76 (by decide) ?_
          refine lv_goto (tgt := 81) hx hb dX10_told_77 (by decide) ?_
          exact wret_i hx hb hr hlocks (J, (va_up I 13 (I 13)), R, RJ) ⟨(I 13), trivial, rfl⟩ hP hD hS dX10_told_81
      by_cases c_8 : x1 = 3
      · refine lv_tableIn (off := 57) (tgt := 82) hx hb dX10_told_25 (by rw [c_8]; decide) (by rw [c_8]; decide) (by rw [c_8]; rfl) (by decide) ?_
        refine lv_aload_n hx hb dX10_told_82 rfl (lv_at hl 0 rfl) ?_
        refine va_get (D := D) (ci := 9) (v := .ref (a 1)) (C := RX10) (T := TX10) (N := 30) hx hb hts hi10 hown hK hP 0 rfl rfl 2 (by decide) hw1 (fun _ h9 => h9) rfl dX10_told_83 ?_
        refine lv_iload_n hx hb dX10_told_86 rfl (lv_at hl 1 rfl) ?_
        refine va_iald hx hb hK hP 1 0 rfl rfl (st_in hM.1 c_1) dX10_told_87 ?_
        refine lv_bipush (v := 9) hx hb dX10_told_88 (by decide) ?_
        refine lv_ishr hx hb dX10_told_90 ?_
        exact wret_i hx hb hr hlocks (J, (va_up I 13 (I 13)), R, RJ) ⟨(I 13), trivial, rfl⟩ hP hD hS dX10_told_91
      refine lv_tableOut (tgt := 92) hx hb dX10_told_25 (sw_out 0 3 (by decide) (by decide) (fun k hk1 hk2 => by have hq : k = 0 ∨ k = 1 ∨ k = 2 ∨ k = 3 := (by omega); rcases hq with rfl | rfl | rfl | rfl <;> assumption)) (by decide) ?_
      refine lv_aload_n hx hb dX10_told_92 rfl (lv_at hl 0 rfl) ?_
      refine va_get (D := D) (ci := 9) (v := .int (I 3)) (C := RX10) (T := TX10) (N := 30) hx hb hts hi10 hown hK hP 0 rfl rfl 3 (by decide) hw2 (fun _ h9 => h9) rfl dX10_told_93 ?_
      refine lv_if_ne (tgt := 103) hx hb dX10_told_96 (by decide) (fun c_9 => ?_) (fun c_9 => ?_)
      · refine lv_aload_n hx hb dX10_told_103 rfl (lv_at hl 0 rfl) ?_
        refine lv_iload_n hx hb dX10_told_104 rfl (lv_at hl 1 rfl) ?_
        refine kR_i (As := [.int x0]) (rest := []) (q0 := 0) ⟨hx, hb, hml, hown, hts⟩ (c_X10_isAcross l D cy a _ J (va_up I 13 (I 13)) R RJ x0 (st_in hM.1 c_1)) (cwV 1 hts gX10_told_X10_isAcross rfl rfl rfl (by decide +kernel) ⟨Nat.le_of_ble_eq_true rfl, Nat.le_of_ble_eq_true rfl⟩) hK hN hP hD rfl rfl rfl hl.1 rfl (Nat.le_of_ble_eq_true rfl) dX10_told_105 ⟨Nat.le_of_ble_eq_true rfl, Nat.le_of_ble_eq_true rfl⟩ ?_
        refine lv_if_eq (tgt := 118) hx hb dX10_told_108 (by decide) (fun c_10 => ?_) (fun c_10 => ?_)
        · replace c_10 := bI_f c_10
          refine lv_aload_n hx hb dX10_told_118 rfl (lv_at hl 0 rfl) ?_
          refine va_get (D := D) (ci := 9) (v := .long (J 4)) (C := RX10) (T := TX10) (N := 30) hx hb hts hi10 hown hK hP 0 rfl rfl 4 (by decide) hw3 (fun _ h9 => h9) rfl dX10_told_119 ?_
          refine lv_aload_n hx hb dX10_told_122 rfl (lv_at hl 0 rfl) ?_
          refine lv_iload_n hx hb dX10_told_123 rfl (lv_at hl 1 rfl) ?_
          refine kR_i (As := [.int x0]) (rest := [.long (J 4)]) (q0 := 0) ⟨hx, hb, hml, hown, hts⟩ (c_X10_fieldOf l D cy a _ J (va_up I 13 (I 13)) R RJ x0 (st_in hM.1 c_1)) (cwV 1 hts gX10_told_X10_fieldOf rfl rfl rfl (by decide +kernel) ⟨Nat.le_of_ble_eq_true rfl, Nat.le_of_ble_eq_true rfl⟩) hK hN hP hD rfl rfl rfl hl.1 rfl (Nat.le_of_ble_eq_true rfl) dX10_told_124 ⟨Nat.le_of_ble_eq_true rfl, Nat.le_of_ble_eq_true rfl⟩ ?_
          refine kS_i (As := [.long (J 4), .int ((((R 1) x0.toNatClampNeg) >>> ((2 : Int32) &&& 31)) &&& 63)]) (rest := []) ⟨hx, hb, hml, hown, hts⟩ (c_X10_hasBit l (J 4) ((((R 1) x0.toNatClampNeg) >>> ((2 : Int32) &&& 31)) &&& 63)) (va_cwS 2 hts gX10_told_X10_hasBit rfl rfl rfl (by decide +kernel) ⟨Nat.le_of_ble_eq_true rfl, Nat.le_of_ble_eq_true rfl⟩) rfl hl.1 rfl (Nat.le_of_ble_eq_true rfl) dX10_told_127 ⟨Nat.le_of_ble_eq_true rfl, Nat.le_of_ble_eq_true rfl⟩ ?_
          refine lv_if_eq (tgt := 137) hx hb dX10_told_130 (by decide) (fun c_11 => ?_) (fun c_11 => ?_)
          · replace c_11 := bI_f c_11
            refine lv_iconst (v := 0) hx hb dX10_told_137 (by decide) ?_
            exact wret_i hx hb hr hlocks (J, (va_up I 13 (I 13)), R, RJ) ⟨(I 13), trivial, rfl⟩ hP hD hS dX10_told_138
          · replace c_11 := bI_t c_11
            refine lv_iconst (v := 1) hx hb dX10_told_133 (by decide) ?_
            refine lv_goto (tgt := 138) hx hb dX10_told_134 (by decide) ?_
            exact wret_i hx hb hr hlocks (J, (va_up I 13 (I 13)), R, RJ) ⟨(I 13), trivial, rfl⟩ hP hD hS dX10_told_138
        · replace c_10 := bI_t c_10
          refine lv_aload_n hx hb dX10_told_111 rfl (lv_at hl 0 rfl) ?_
          refine va_get (D := D) (ci := 9) (v := .long (J 5)) (C := RX10) (T := TX10) (N := 30) hx hb hts hi10 hown hK hP 0 rfl rfl 5 (by decide) hw4 (fun _ h9 => h9) rfl dX10_told_112 ?_
          refine lv_goto (tgt := 122) hx hb dX10_told_115 (by decide) ?_
          refine lv_aload_n hx hb dX10_told_122 rfl (lv_at hl 0 rfl) ?_
          refine lv_iload_n hx hb dX10_told_123 rfl (lv_at hl 1 rfl) ?_
          refine kR_i (As := [.int x0]) (rest := [.long (J 5)]) (q0 := 0) ⟨hx, hb, hml, hown, hts⟩ (c_X10_fieldOf l D cy a _ J (va_up I 13 (I 13)) R RJ x0 (st_in hM.1 c_1)) (cwV 1 hts gX10_told_X10_fieldOf rfl rfl rfl (by decide +kernel) ⟨Nat.le_of_ble_eq_true rfl, Nat.le_of_ble_eq_true rfl⟩) hK hN hP hD rfl rfl rfl hl.1 rfl (Nat.le_of_ble_eq_true rfl) dX10_told_124 ⟨Nat.le_of_ble_eq_true rfl, Nat.le_of_ble_eq_true rfl⟩ ?_
          refine kS_i (As := [.long (J 5), .int ((((R 1) x0.toNatClampNeg) >>> ((2 : Int32) &&& 31)) &&& 63)]) (rest := []) ⟨hx, hb, hml, hown, hts⟩ (c_X10_hasBit l (J 5) ((((R 1) x0.toNatClampNeg) >>> ((2 : Int32) &&& 31)) &&& 63)) (va_cwS 2 hts gX10_told_X10_hasBit rfl rfl rfl (by decide +kernel) ⟨Nat.le_of_ble_eq_true rfl, Nat.le_of_ble_eq_true rfl⟩) rfl hl.1 rfl (Nat.le_of_ble_eq_true rfl) dX10_told_127 ⟨Nat.le_of_ble_eq_true rfl, Nat.le_of_ble_eq_true rfl⟩ ?_
          refine lv_if_eq (tgt := 137) hx hb dX10_told_130 (by decide) (fun c_12 => ?_) (fun c_12 => ?_)
          · replace c_12 := bI_f c_12
            refine lv_iconst (v := 0) hx hb dX10_told_137 (by decide) ?_
            exact wret_i hx hb hr hlocks (J, (va_up I 13 (I 13)), R, RJ) ⟨(I 13), trivial, rfl⟩ hP hD hS dX10_told_138
          · replace c_12 := bI_t c_12
            refine lv_iconst (v := 1) hx hb dX10_told_133 (by decide) ?_
            refine lv_goto (tgt := 138) hx hb dX10_told_134 (by decide) ?_
            exact wret_i hx hb hr hlocks (J, (va_up I 13 (I 13)), R, RJ) ⟨(I 13), trivial, rfl⟩ hP hD hS dX10_told_138
      · refine lv_iconst (v := (-1)) hx hb dX10_told_99 (by decide) ?_
        refine lv_goto (tgt := 138) hx hb dX10_told_100 (by decide) ?_
        exact wret_i hx hb hr hlocks (J, (va_up I 13 (I 13)), R, RJ) ⟨(I 13), trivial, rfl⟩ hP hD hS dX10_told_138
    · replace c_3 := bI_f c_3
      refine lv_aload_n hx hb dX10_told_17 rfl (lv_at hl 0 rfl) ?_
      refine lv_ldc (v := (-100001)) hx hb hown hw0 dX10_told_18 ?_
      refine kM_i (As := [.int (-100001)]) (rest := []) (q0 := 0) ⟨hx, hb, hml, hown, hts⟩ (c_X10_finding l D cy a _ J (va_up I 13 (I 13)) R RJ (-100001) ) (cwV 1 hts gX10_told_X10_finding rfl rfl rfl (by decide +kernel) ⟨Nat.le_of_ble_eq_true rfl, Nat.le_of_ble_eq_true rfl⟩) hK hN hP hD hS hA rfl rfl rfl hl.1 rfl (Nat.le_of_ble_eq_true rfl) dX10_told_20 ⟨Nat.le_of_ble_eq_true rfl, Nat.le_of_ble_eq_true rfl⟩ (fun r_13 u H locs hw hP hD hS => ?_)
      obtain ⟨rfl, rfl⟩ := hw
      have hP : va_P D vwCl (MW cy a J (va_up I 13 ((I 13) + 1)) R RJ) H := hP
      have hD : va_D A (MW cy a J (va_up I 13 ((I 13) + 1)) R RJ) := hD
      exact wret_i hx hb hr hlocks (J, (va_up I 13 ((I 13) + 1)), R, RJ) ⟨((I 13) + 1), trivial, rfl⟩ hP hD hS dX10_told_23
