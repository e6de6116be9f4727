theorem dX10_extreme_43 : decode cX10_extreme 43 = .ok (.iload_n 3, 1) := by decide +kernel
theorem dX10_extreme_44 : decode cX10_extreme 44 = .ok (.bipush 64, 2) := by decide +kernel
theorem dX10_extreme_46 : decode cX10_extreme 46 = .ok (.if_icmp .ge 67, 3) := by decide +kernel
theorem dX10_extreme_113 : decode cX10_extreme 113 = .ok (.goto (-78), 3) := by decide +kernel
theorem dX10_extreme_49 : decode cX10_extreme 49 = .ok (.aload_n 0, 1) := by decide +kernel
theorem dX10_extreme_50 : decode cX10_extreme 50 = .ok (.aload_n 0, 1) := by decide +kernel
theorem dX10_extreme_51 : decode cX10_extreme 51 = .ok (.getfield 210, 3) := by decide +kernel
theorem dX10_extreme_54 : decode cX10_extreme 54 = .ok (.aload_n 0, 1) := by decide +kernel
theorem dX10_extreme_55 : decode cX10_extreme 55 = .ok (.getfield 213, 3) := by decide +kernel
theorem dX10_extreme_58 : decode cX10_extreme 58 = .ok (.iload_n 3, 1) := by decide +kernel
set_option maxRecDepth 20000 in
theorem ggX10_extreme_X10_turnAt : GoodIn wsX10_extreme wsX10_turnAt := goodIn_r _ [99, 59, 60, 39, 40, 8, 41, 116, 117, 118, 119, 120, 121, 122, 123, 124, 125, 126, 127, 128, 129, 130, 131, 132, 133, 134, 135, 136, 137, 138, 139, 140, 141, 142, 143, 144, 145] rfl (by decide +kernel)
set_option maxRecDepth 20000 in
theorem gX10_extreme_X10_turnAt : GoodIn wsX10_extreme (wsV RX10 231 RX10 yX10_turnAt wsX10_turnAt) := goodIn_app (goodIn_r _ [96, 97, 98, 8] rfl (by decide +kernel)) ggX10_extreme_X10_turnAt
theorem dX10_extreme_59 : decode cX10_extreme 59 = .ok (.invokevirtual 231, 3) := by decide +kernel
theorem dX10_extreme_62 : decode cX10_extreme 62 = .ok (.istore 4, 2) := by decide +kernel
theorem dX10_extreme_64 : decode cX10_extreme 64 = .ok (.iload 4, 2) := by decide +kernel
theorem dX10_extreme_66 : decode cX10_extreme 66 = .ok (.ifCond .le 41, 3) := by decide +kernel
theorem dX10_extreme_107 : decode cX10_extreme 107 = .ok (.iinc 3 1, 3) := by decide +kernel
theorem dX10_extreme_110 : decode cX10_extreme 110 = .ok (.goto (-67), 3) := by decide +kernel
theorem dX10_extreme_69 : decode cX10_extreme 69 = .ok (.iload_n 3, 1) := by decide +kernel
theorem dX10_extreme_70 : decode cX10_extreme 70 = .ok (.iload 4, 2) := by decide +kernel
set_option maxRecDepth 20000 in
theorem ggX10_extreme_X10_isDown : GoodIn wsX10_extreme wsX10_isDown := goodIn_r _ [102, 103, 104, 8, 105] rfl (by decide +kernel)
set_option maxRecDepth 20000 in
theorem gX10_extreme_X10_isDown : GoodIn wsX10_extreme (va_wsS RX10 260 yX10_isDown wsX10_isDown) := goodIn_app (goodIn_r _ [100, 101, 8] rfl (by decide +kernel)) ggX10_extreme_X10_isDown
theorem dX10_extreme_72 : decode cX10_extreme 72 = .ok (.invokestatic 260, 3) := by decide +kernel
theorem dX10_extreme_75 : decode cX10_extreme 75 = .ok (.iload_n 1, 1) := by decide +kernel
theorem dX10_extreme_76 : decode cX10_extreme 76 = .ok (.if_icmp .eq 31, 3) := by decide +kernel
theorem dX10_extreme_79 : decode cX10_extreme 79 = .ok (.aload_n 0, 1) := by decide +kernel
theorem dX10_extreme_80 : decode cX10_extreme 80 = .ok (.dup, 1) := by decide +kernel
theorem dX10_extreme_81 : decode cX10_extreme 81 = .ok (.getfield 210, 3) := by decide +kernel
theorem dX10_extreme_84 : decode cX10_extreme 84 = .ok (.iload_n 3, 1) := by decide +kernel
set_option maxRecDepth 20000 in
theorem ggX10_extreme_X10_alongAt : GoodIn wsX10_extreme wsX10_alongAt := goodIn_r _ [108] rfl (by decide +kernel)
set_option maxRecDepth 20000 in
theorem gX10_extreme_X10_alongAt : GoodIn wsX10_extreme (va_wsS RX10 235 yX10_alongAt wsX10_alongAt) := goodIn_app (goodIn_r _ [106, 107, 8] rfl (by decide +kernel)) ggX10_extreme_X10_alongAt
theorem dX10_extreme_85 : decode cX10_extreme 85 = .ok (.invokestatic 235, 3) := by decide +kernel
theorem dX10_extreme_88 : decode cX10_extreme 88 = .ok (.lxor, 1) := by decide +kernel
theorem dX10_extreme_89 : decode cX10_extreme 89 = .ok (.putfield 210, 3) := by decide +kernel
theorem dX10_extreme_92 : decode cX10_extreme 92 = .ok (.aload_n 0, 1) := by decide +kernel
theorem dX10_extreme_93 : decode cX10_extreme 93 = .ok (.dup, 1) := by decide +kernel
theorem dX10_extreme_94 : decode cX10_extreme 94 = .ok (.getfield 213, 3) := by decide +kernel
theorem dX10_extreme_97 : decode cX10_extreme 97 = .ok (.iload_n 3, 1) := by decide +kernel
set_option maxRecDepth 20000 in
theorem ggX10_extreme_X10_acrossAt : GoodIn wsX10_extreme wsX10_acrossAt := goodIn_r _ [111, 77] rfl (by decide +kernel)
set_option maxRecDepth 20000 in
theorem gX10_extreme_X10_acrossAt : GoodIn wsX10_extreme (va_wsS RX10 239 yX10_acrossAt wsX10_acrossAt) := goodIn_app (goodIn_r _ [109, 110, 8] rfl (by decide +kernel)) ggX10_extreme_X10_acrossAt
theorem dX10_extreme_98 : decode cX10_extreme 98 = .ok (.invokestatic 239, 3) := by decide +kernel
theorem dX10_extreme_101 : decode cX10_extreme 101 = .ok (.lxor, 1) := by decide +kernel
theorem dX10_extreme_102 : decode cX10_extreme 102 = .ok (.putfield 213, 3) := by decide +kernel
theorem dX10_extreme_105 : decode cX10_extreme 105 = .ok (.iconst 1, 1) := by decide +kernel
theorem dX10_extreme_106 : decode cX10_extreme 106 = .ok (.istore_n 2, 1) := by decide +kernel
theorem dX10_extreme_35 : decode cX10_extreme 35 = .ok (.iload_n 2, 1) := by decide +kernel
theorem dX10_extreme_36 : decode cX10_extreme 36 = .ok (.ifCond .eq 80, 3) := by decide +kernel
theorem dX10_extreme_116 : decode cX10_extreme 116 = .ok (.aload_n 0, 1) := by decide +kernel
theorem dX10_extreme_117 : decode cX10_extreme 117 = .ok (.aload_n 0, 1) := by decide +kernel
theorem dX10_extreme_118 : decode cX10_extreme 118 = .ok (.getfield 210, 3) := by decide +kernel
theorem dX10_extreme_121 : decode cX10_extreme 121 = .ok (.aload_n 0, 1) := by decide +kernel
theorem dX10_extreme_122 : decode cX10_extreme 122 = .ok (.getfield 213, 3) := by decide +kernel
set_option maxRecDepth 20000 in
theorem ggX10_extreme_X10_numberOf : GoodIn wsX10_extreme wsX10_numberOf := goodIn_r _ [115, 10, 39, 40, 8, 41, 83, 84, 85, 86, 87, 61, 60, 59, 74, 75, 76, 77, 88, 89, 90, 91, 82, 116, 117, 118, 119, 120, 121, 122, 123, 124, 125, 126, 127, 128, 129, 130, 131, 132, 133, 134, 135, 136, 137, 138, 139, 140, 141, 142, 143, 144, 145] rfl (by decide +kernel)
set_option maxRecDepth 20000 in
theorem gX10_extreme_X10_numberOf : GoodIn wsX10_extreme (wsV RX10 223 RX10 yX10_numberOf wsX10_numberOf) := goodIn_app (goodIn_r _ [112, 113, 114, 8] rfl (by decide +kernel)) ggX10_extreme_X10_numberOf
theorem dX10_extreme_125 : decode cX10_extreme 125 = .ok (.invokevirtual 223, 3) := by decide +kernel
theorem dX10_extreme_128 : decode cX10_extreme 128 = .ok (.ireturn, 1) := by decide +kernel
theorem dX10_extreme_39 : decode cX10_extreme 39 = .ok (.iconst 0, 1) := by decide +kernel
theorem dX10_extreme_40 : decode cX10_extreme 40 = .ok (.istore_n 2, 1) := by decide +kernel
theorem dX10_extreme_41 : decode cX10_extreme 41 = .ok (.iconst 0, 1) := by decide +kernel
theorem dX10_extreme_42 : decode cX10_extreme 42 = .ok (.istore_n 3, 1) := by decide +kernel
theorem dX10_extreme_0 : decode cX10_extreme 0 = .ok (.aload_n 0, 1) := by decide +kernel
set_option maxRecDepth 20000 in
theorem ggX10_extreme_X10_isWhole : GoodIn wsX10_extreme wsX10_isWhole := goodIn_r _ [9, 10, 11, 12, 13, 8, 14, 15, 16, 17, 18, 19, 20, 21, 22, 23, 24, 25, 26, 27, 28, 29, 30, 31, 32, 33, 34, 35, 36, 37, 38, 39, 40, 41, 42, 43, 44, 45, 116, 117, 118, 119, 120, 121, 122, 123, 124, 125, 126, 127, 128, 129, 130, 131, 132, 133, 134, 135, 136, 137, 138, 139, 140, 141, 142, 143, 144, 145] rfl (by decide +kernel)
set_option maxRecDepth 20000 in
theorem gX10_extreme_X10_isWhole : GoodIn wsX10_extreme (wsV RX10 172 RX10 yX10_isWhole wsX10_isWhole) := goodIn_app (goodIn_r _ [5, 6, 7, 8] rfl (by decide +kernel)) ggX10_extreme_X10_isWhole
theorem dX10_extreme_1 : decode cX10_extreme 1 = .ok (.invokevirtual 172, 3) := by decide +kernel
theorem dX10_extreme_4 : decode cX10_extreme 4 = .ok (.ifCond .ne 10, 3) := by decide +kernel
theorem dX10_extreme_14 : decode cX10_extreme 14 = .ok (.aload_n 0, 1) := by decide +kernel
set_option maxRecDepth 20000 in
theorem ggX10_extreme_X10_countAll : GoodIn wsX10_extreme wsX10_countAll := goodIn_r _ [54, 55, 56, 57, 8, 58, 59, 60, 61, 15, 16, 17, 18, 19, 20, 21, 22, 23, 24, 62, 63, 64, 65, 66, 67, 68, 69, 70, 71, 72, 73, 74, 75, 76, 77, 78, 79, 80, 81, 82, 10, 39, 40, 41, 83, 84, 85, 86, 87, 88, 89, 90, 91, 116, 117, 118, 119, 120, 121, 122, 123, 124, 125, 126, 127, 128, 129, 130, 131, 132, 133, 134, 135, 136, 137, 138, 139, 140, 141, 142, 143, 144, 145] rfl (by decide +kernel)
set_option maxRecDepth 20000 in
theorem gX10_extreme_X10_countAll : GoodIn wsX10_extreme (wsV RX10 207 RX10 yX10_countAll wsX10_countAll) := goodIn_app (goodIn_r _ [51, 52, 53, 8] rfl (by decide +kernel)) ggX10_extreme_X10_countAll
theorem dX10_extreme_15 : decode cX10_extreme 15 = .ok (.invokevirtual 207, 3) := by decide +kernel
theorem dX10_extreme_18 : decode cX10_extreme 18 = .ok (.ifCond .ne 10, 3) := by decide +kernel
theorem dX10_extreme_28 : decode cX10_extreme 28 = .ok (.aload_n 0, 1) := by decide +kernel
theorem dX10_extreme_29 : decode cX10_extreme 29 = .ok (.iconst 0, 1) := by decide +kernel
set_option maxRecDepth 20000 in
theorem ggX10_extreme_X10_walk : GoodIn wsX10_extreme wsX10_walk := goodIn_r _ [95, 3, 4, 10, 39, 40, 8, 41, 83, 84, 85, 86, 87, 61, 60, 59, 74, 75, 76, 77, 88, 89, 90, 91, 82, 116, 117, 118, 119, 120, 121, 122, 123, 124, 125, 126, 127, 128, 129, 130, 131, 132, 133, 134, 135, 136, 137, 138, 139, 140, 141, 142, 143, 144, 145] rfl (by decide +kernel)
set_option maxRecDepth 20000 in
theorem gX10_extreme_X10_walk : GoodIn wsX10_extreme (wsV RX10 216 RX10 yX10_walk wsX10_walk) := goodIn_app (goodIn_r _ [92, 93, 94, 8] rfl (by decide +kernel)) ggX10_extreme_X10_walk
theorem dX10_extreme_30 : decode cX10_extreme 30 = .ok (.invokevirtual 216, 3) := by decide +kernel
theorem dX10_extreme_33 : decode cX10_extreme 33 = .ok (.iconst 1, 1) := by decide +kernel
theorem dX10_extreme_34 : decode cX10_extreme 34 = .ok (.istore_n 2, 1) := by decide +kernel
theorem dX10_extreme_21 : decode cX10_extreme 21 = .ok (.aload_n 0, 1) := by decide +kernel
theorem dX10_extreme_22 : decode cX10_extreme 22 = .ok (.ldc 98, 2) := by decide +kernel
set_option maxRecDepth 20000 in
theorem ggX10_extreme_X10_finding : GoodIn wsX10_extreme wsX10_finding := goodIn_r _ [49, 50, 116, 117, 118, 119, 120, 121, 122, 123, 124, 125, 126, 127, 128, 129, 130, 131, 132, 133, 134, 135, 136, 137, 138, 139, 140, 141, 142, 143, 144, 145] rfl (by decide +kernel)
set_option maxRecDepth 20000 in
theorem gX10_extreme_X10_finding : GoodIn wsX10_extreme (wsV RX10 99 RX10 yX10_finding wsX10_finding) := goodIn_app (goodIn_r _ [46, 47, 48, 8] rfl (by decide +kernel)) ggX10_extreme_X10_finding
theorem dX10_extreme_24 : decode cX10_extreme 24 = .ok (.invokevirtual 99, 3) := by decide +kernel
theorem dX10_extreme_27 : decode cX10_extreme 27 = .ok (.ireturn, 1) := by decide +kernel
theorem dX10_extreme_7 : decode cX10_extreme 7 = .ok (.aload_n 0, 1) := by decide +kernel
theorem dX10_extreme_8 : decode cX10_extreme 8 = .ok (.ldc 133, 2) := by decide +kernel
theorem dX10_extreme_10 : decode cX10_extreme 10 = .ok (.invokevirtual 99, 3) := by decide +kernel
theorem dX10_extreme_13 : decode cX10_extreme 13 = .ok (.ireturn, 1) := by decide +kernel
set_option maxRecDepth 20000 in
theorem ihX10_extreme_10 : ∀ w ∈ u_ws RX10 TX10 30, w ∈ wsX10_extreme := fun _ h => List.mem_cons_of_mem _ (List.mem_append_right _ h)
set_option maxHeartbeats 4000000 in
set_option maxRecDepth 100000 in
theorem t_X10_extreme (l : Launch) (D : va_G) (cy : Nat → ClassId) (a : Nat → Nat) (sz : Nat) (J : Nat → Int64) (I : Nat → Int32) (R : Nat → Nat → Int32) (RJ : Nat → Nat → Int64) (x0 : Bool) (hM : MI I R) : Met l yX10_extreme wsX10_extreme ({ frames := 6, cells := 0, slots := 0, locals := 136 }) (va_Pc [.ref (a 0), .int (bI x0)] (PW D cy sz (MW cy a J I R RJ))) (va_Qi (fun r (u : MS) => ∃ (w0 : Int64), ∃ (w1 : Int64), ∃ (w2 : Int64), ∃ (w3 : Int64), ∃ (w4 : Int64), ∃ (w5 : Int32), ∃ (w6 : Nat → Int32), ∃ (w7 : Nat → Int32), (True) ∧ u = ((va_up (va_up (va_up (va_up (va_up J 19 w0) 20 w1) 21 w2) 22 w3) 23 w4), (va_up I 13 w5), (va_up (va_up R 11 w6) 12 w7), RJ)) (BW D (va_A (MW cy a J I R RJ) sz) (MWu cy a)) (va_A (MW cy a J I R RJ) sz)) 0 0 (va_A (MW cy a J I R RJ) sz) := by
  refine Met.ofW (cc := cX10_extreme) (maxL := 5) (ret := (some .int)) (by decide) rfl ?_
  intro p e s m args below meth c s₁ B hml hv
  obtain ⟨rfl, rfl, hP, hK, hN, hD0⟩ := hv
  have hx := B.exec
  have hb := B.bytes
  have hr := B.returns
  have hts := atoms_spec (ws := wsX10_extreme) B.pre
  have hown : s.vm.findClass RX10 = some m.cls := findClass_of_methodNamed B.named
  have hlocks := B.notSynchronized
  have hw0 := hts (.fieldLink RX10 210 "ParquetLayerModel" "walkAlong" "J") (by decide +kernel)
  have hw1 := hts (.fieldLink RX10 213 "ParquetLayerModel" "walkAcross" "J") (by decide +kernel)
  have hw2 := hts (.constant RX10 98 (-100006)) (by decide +kernel)
  have hw3 := hts (.constant RX10 133 (-100004)) (by decide +kernel)
  have hi10 := ihX10_extreme_10
  have hD := hD0.self (sz := s.heap.size)
  generalize hAe : va_A (MW cy a J I R RJ) s.heap.size = A at hD ⊢
  have hA : ∀ q : Nat, s.heap.size ≤ q → A q := fun q h => by rw [← hAe]; exact Or.inr h
  have hS : va_S A s.heap s.heap [] := va_S.rf
  have hl := lv_entry ([.ref (a 0), .int (bI x0)]) (n := 5) (Nat.le_of_ble_eq_true rfl)
  rw [lg_entry_eq]
  generalize (lg_sl ([.ref (a 0), .int (bI x0)]) ++ List.replicate (5 - (lg_sl ([.ref (a 0), .int (bI x0)])).length) Slot.unset).toArray = ls at hl ⊢
  have hl : lv_has ls 5 [(0, .ref (a 0)), (1, .int (bI x0))] := hl
  have hP : va_P D vwCl (MW cy a (va_up (va_up (va_up (va_up (va_up J 19 (J 19)) 20 (J 20)) 21 (J 21)) 22 (J 22)) 23 (J 23)) (va_up I 13 (I 13)) (va_up (va_up R 11 (R 11)) 12 (R 12)) RJ) s.heap := hP
  have hD : va_D A (MW cy a (va_up (va_up (va_up (va_up (va_up J 19 (J 19)) 20 (J 20)) 21 (J 21)) 22 (J 22)) 23 (J 23)) (va_up I 13 (I 13)) (va_up (va_up R 11 (R 11)) 12 (R 12)) RJ) := hD
  have lp35 : ∀ (n35 : Nat), ∀ (v2_35 : Bool) (m0_35 : Int64) (m1_35 : Int64) (m2_35 : Int64) (m3_35 : Int64) (m4_35 : Int64) (m5_35 : Int32) (m6_35 : Nat → Int32) (m7_35 : Nat → Int32), (DJ (bf m3_35) (bf m4_35)) → (ps x0 (bf m4_35) 64 + bN v2_35) < n35 → ∀ (H : Heap) (locs : List Loc), va_P D vwCl (MW cy a (va_up (va_up (va_up (va_up (va_up J 19 m0_35) 20 m1_35) 21 m2_35) 22 m3_35) 23 m4_35) (va_up I 13 m5_35) (va_up (va_up R 11 m6_35) 12 m7_35) RJ) H → va_D A (MW cy a (va_up (va_up (va_up (va_up (va_up J 19 m0_35) 20 m1_35) 21 m2_35) 22 m3_35) 23 m4_35) (va_up I 13 m5_35) (va_up (va_up R 11 m6_35) 12 m7_35) RJ) → va_S A s.heap H locs → ∀ (ls : Array Slot), lv_has ls 5 [(0, .ref (a 0)), (1, .int (bI x0)), (2, .int (bI v2_35))] → W p l e (headSpec wsX10_extreme ({ frames := 6, cells := 0, slots := 0, locals := 136 })).room s m ([.ref (a 0), .int (bI x0)] : List Value).toArray below meth c H locs 0 0 (MQ below (va_Qi (fun r (u : MS) => ∃ (w0 : Int64), ∃ (w1 : Int64), ∃ (w2 : Int64), ∃ (w3 : Int64), ∃ (w4 : Int64), ∃ (w5 : Int32), ∃ (w6 : Nat → Int32), ∃ (w7 : Nat → Int32), (True) ∧ u = ((va_up (va_up (va_up (va_up (va_up J 19 w0) 20 w1) 21 w2) 22 w3) 23 w4), (va_up I 13 w5), (va_up (va_up R 11 w6) 12 w7), RJ)) (BW D A (MWu cy a)) A) ([.ref (a 0), .int (bI x0)] : List Value).toArray s 0 0 A) (F0 m 35 ls []) := by
    intro n35
    induction n35 with
    | zero => intro v2_35 m0_35 m1_35 m2_35 m3_35 m4_35 m5_35 m6_35 m7_35 hdj hn; exact absurd hn (Nat.not_lt_zero _)
    | succ n35 ih35 =>
      intro v2_35 m0_35 m1_35 m2_35 m3_35 m4_35 m5_35 m6_35 m7_35 hdj hn35 H locs hP hD hS ls hl
      have lp43 : ∀ (n43 : Nat), ∀ (f9 : Nat) (v2_43 : Bool) (m0_43 : Int64) (m1_43 : Int64) (m2_43 : Int64) (m3_43 : Int64) (m4_43 : Int64) (m5_43 : Int32) (m6_43 : Nat → Int32) (m7_43 : Nat → Int32), (f9 ≤ 64) → (v2_35 = true) → (ps x0 (bf m4_43) 64 + bN v2_43 ≤ ps x0 (bf m4_35) 64) → (DJ (bf m3_43) (bf m4_43)) → (64 - f9) < n43 → ∀ (H : Heap) (locs : List Loc), va_P D vwCl (MW cy a (va_up (va_up (va_up (va_up (va_up J 19 m0_43) 20 m1_43) 21 m2_43) 22 m3_43) 23 m4_43) (va_up I 13 m5_43) (va_up (va_up R 11 m6_43) 12 m7_43) RJ) H → va_D A (MW cy a (va_up (va_up (va_up (va_up (va_up J 19 m0_43) 20 m1_43) 21 m2_43) 22 m3_43) 23 m4_43) (va_up I 13 m5_43) (va_up (va_up R 11 m6_43) 12 m7_43) RJ) → va_S A s.heap H locs → ∀ (ls : Array Slot), lv_has ls 5 [(0, .ref (a 0)), (1, .int (bI x0)), (2, .int (bI v2_43)), (3, .int (nI f9))] → W p l e (headSpec wsX10_extreme ({ frames := 6, cells := 0, slots := 0, locals := 136 })).room s m ([.ref (a 0), .int (bI x0)] : List Value).toArray below meth c H locs 0 0 (MQ below (va_Qi (fun r (u : MS) => ∃ (w0 : Int64), ∃ (w1 : Int64), ∃ (w2 : Int64), ∃ (w3 : Int64), ∃ (w4 : Int64), ∃ (w5 : Int32), ∃ (w6 : Nat → Int32), ∃ (w7 : Nat → Int32), (True) ∧ u = ((va_up (va_up (va_up (va_up (va_up J 19 w0) 20 w1) 21 w2) 22 w3) 23 w4), (va_up I 13 w5), (va_up (va_up R 11 w6) 12 w7), RJ)) (BW D A (MWu cy a)) A) ([.ref (a 0), .int (bI x0)] : List Value).toArray s 0 0 A) (F0 m 43 ls []) := by
        intro n43
        induction n43 with
        | zero => intro f9 v2_43 m0_43 m1_43 m2_43 m3_43 m4_43 m5_43 m6_43 m7_43 hf9 hm hc hdj hn; exact absurd hn (Nat.not_lt_zero _)
        | succ n43 ih43 =>
          intro f9 v2_43 m0_43 m1_43 m2_43 m3_43 m4_43 m5_43 m6_43 m7_43 hf9 hm hc hdj hn43 H locs hP hD hS ls hl
          refine lv_iload_n hx hb dX10_extreme_43 rfl (lv_at hl 3 rfl) ?_
          refine lv_bipush (v := 64) hx hb dX10_extreme_44 (by decide) ?_
          refine lv_icmp_ge (tgt := 113) hx hb dX10_extreme_46 (by decide) (fun c_1 => ?_) (fun c_1 => ?_)
          · refine lv_goto (tgt := 35) hx hb dX10_extreme_113 (by decide) ?_
            exact ih35 v2_43 m0_43 m1_43 m2_43 m3_43 m4_43 m5_43 m6_43 m7_43 hdj (mz hc hn35 (by rw [hm]; rfl)) _ _ hP hD hS ls (lv_sub hl [0, 1, 2] rfl)
          · have hlt_f9 := ctr_lt (N := 64) (by decide) hf9 c_1
            refine lv_aload_n hx hb dX10_extreme_49 rfl (lv_at hl 0 rfl) ?_
            refine lv_aload_n hx hb dX10_extreme_50 rfl (lv_at hl 0 rfl) ?_
            refine va_get (D := D) (ci := 9) (v := .long m3_43) (C := RX10) (T := TX10) (N := 30) hx hb hts hi10 hown hK hP 0 rfl rfl 22 (by decide) hw0 (fun _ h9 => h9) rfl dX10_extreme_51 ?_
            refine lv_aload_n hx hb dX10_extreme_54 rfl (lv_at hl 0 rfl) ?_
            refine va_get (D := D) (ci := 9) (v := .long m4_43) (C := RX10) (T := TX10) (N := 30) hx hb hts hi10 hown hK hP 0 rfl rfl 23 (by decide) hw1 (fun _ h9 => h9) rfl dX10_extreme_55 ?_
            refine lv_iload_n hx hb dX10_extreme_58 rfl (lv_at hl 3 rfl) ?_
            refine kM_i (As := [.long m3_43, .long m4_43, .int (nI f9)]) (rest := []) (q0 := 0) ⟨hx, hb, hml, hown, hts⟩ (t_X10_turnAtD l D cy a _ (va_up (va_up (va_up (va_up (va_up J 19 m0_43) 20 m1_43) 21 m2_43) 22 m3_43) 23 m4_43) (va_up I 13 m5_43) (va_up (va_up R 11 m6_43) 12 m7_43) RJ m3_43 m4_43 f9 hlt_f9 ) (cwV 3 hts gX10_extreme_X10_turnAt rfl rfl rfl (by decide +kernel) ⟨Nat.le_of_ble_eq_true rfl, Nat.le_of_ble_eq_true rfl⟩) hK hN hP hD hS hA rfl rfl rfl hl.1 rfl (Nat.le_of_ble_eq_true rfl) dX10_extreme_59 ⟨Nat.le_of_ble_eq_true rfl, Nat.le_of_ble_eq_true rfl⟩ (fun r_2 u H locs hw hP hD hS => ?_)
            obtain ⟨hp_3, rfl⟩ := hw
            have hP : va_P D vwCl (MW cy a (va_up (va_up (va_up (va_up (va_up J 19 m0_43) 20 m1_43) 21 m2_43) 22 m3_43) 23 m4_43) (va_up I 13 m5_43) (va_up (va_up R 11 m6_43) 12 m7_43) RJ) H := hP
            have hD : va_D A (MW cy a (va_up (va_up (va_up (va_up (va_up J 19 m0_43) 20 m1_43) 21 m2_43) 22 m3_43) 23 m4_43) (va_up I 13 m5_43) (va_up (va_up R 11 m6_43) 12 m7_43) RJ) := hD
            refine lv_istore (lv' := [(4, .int r_2), (0, .ref (a 0)), (1, .int (bI x0)), (2, .int (bI v2_43)), (3, .int (nI f9))]) hx hb dX10_extreme_62 hl (by decide) rfl (fun ls hl => ?_)
            refine lv_iload hx hb dX10_extreme_64 (lv_at hl 0 rfl) ?_
            refine lv_if_le (tgt := 107) hx hb dX10_extreme_66 (by decide) (fun c_4 => ?_) (fun c_4 => ?_)
            · refine lv_iinc (v := nI (f9 + 1)) (lv' := [(3, .int (nI (f9 + 1))), (4, .int r_2), (0, .ref (a 0)), (1, .int (bI x0)), (2, .int (bI v2_43))]) hx hb dX10_extreme_107 hl (k := 4) rfl (nI_1 _) (by decide) rfl (fun ls hl => ?_)
              refine lv_goto (tgt := 43) hx hb dX10_extreme_110 (by decide) ?_
              exact ih43 (f9 + 1) v2_43 m0_43 m1_43 m2_43 m3_43 m4_43 m5_43 m6_43 m7_43 hlt_f9 hm hc hdj (lt_dec hlt_f9 hn43) _ _ hP hD hS ls (lv_sub hl [2, 3, 4, 0] rfl)
            · refine lv_iload_n hx hb dX10_extreme_69 rfl (lv_at hl 4 rfl) ?_
              refine lv_iload hx hb dX10_extreme_70 (lv_at hl 0 rfl) ?_
              refine kS_i (As := [.int (nI f9), .int r_2]) (rest := []) ⟨hx, hb, hml, hown, hts⟩ (c_X10_isDown l (nI f9) r_2) (va_cwS 2 hts gX10_extreme_X10_isDown rfl rfl rfl (by decide +kernel) ⟨Nat.le_of_ble_eq_true rfl, Nat.le_of_ble_eq_true rfl⟩) rfl hl.1 rfl (Nat.le_of_ble_eq_true rfl) dX10_extreme_72 ⟨Nat.le_of_ble_eq_true rfl, Nat.le_of_ble_eq_true rfl⟩ ?_
              refine lv_iload_n hx hb dX10_extreme_75 rfl (lv_at hl 2 rfl) ?_
              refine lv_icmp_eq (tgt := 107) hx hb dX10_extreme_76 (by decide) (fun c_5 => ?_) (fun c_5 => ?_)
              · refine lv_iinc (v := nI (f9 + 1)) (lv' := [(3, .int (nI (f9 + 1))), (4, .int r_2), (0, .ref (a 0)), (1, .int (bI x0)), (2, .int (bI v2_43))]) hx hb dX10_extreme_107 hl (k := 4) rfl (nI_1 _) (by decide) rfl (fun ls hl => ?_)
                refine lv_goto (tgt := 43) hx hb dX10_extreme_110 (by decide) ?_
                exact ih43 (f9 + 1) v2_43 m0_43 m1_43 m2_43 m3_43 m4_43 m5_43 m6_43 m7_43 hlt_f9 hm hc hdj (lt_dec hlt_f9 hn43) _ _ hP hD hS ls (lv_sub hl [2, 3, 4, 0] rfl)
              · refine lv_aload_n hx hb dX10_extreme_79 rfl (lv_at hl 1 rfl) ?_
                refine lv_dup hx hb dX10_extreme_80 rfl ?_
                refine va_get (D := D) (ci := 9) (v := .long m3_43) (C := RX10) (T := TX10) (N := 30) hx hb hts hi10 hown hK hP 0 rfl rfl 22 (by decide) hw0 (fun _ h9 => h9) rfl dX10_extreme_81 ?_
                refine lv_iload_n hx hb dX10_extreme_84 rfl (lv_at hl 4 rfl) ?_
                refine kS_l (As := [.int (nI f9)]) (rest := [.long m3_43, .ref (a 0)]) ⟨hx, hb, hml, hown, hts⟩ (c_X10_alongAt l (nI f9)) (va_cwS 1 hts gX10_extreme_X10_alongAt rfl rfl rfl (by decide +kernel) ⟨Nat.le_of_ble_eq_true rfl, Nat.le_of_ble_eq_true rfl⟩) rfl hl.1 rfl (Nat.le_of_ble_eq_true rfl) dX10_extreme_85 ⟨Nat.le_of_ble_eq_true rfl, Nat.le_of_ble_eq_true rfl⟩ ?_
                refine lv_lxor hx hb dX10_extreme_88 ?_
                refine va_put (D := D) (ci := 9) (v := .long (m3_43 ^^^ (m_alongAt (nI f9)))) (ty := .long) (C := RX10) (T := TX10) (N := 30) hx hb hts hi10 tyX10 tyX10_ok nmX10 hown hK hP hD hS 0 rfl rfl 22 (by decide) hw0 (fun _ h9 => h9) rfl (by decide +kernel) rfl rfl (Nat.le_of_ble_eq_true rfl) dX10_extreme_89 (fun H locs hP hD hS => ?_)
                have hP : va_P D vwCl (MW cy a (va_up (va_up (va_up (va_up (va_up J 19 m0_43) 20 m1_43) 21 m2_43) 22 (m3_43 ^^^ (m_alongAt (nI f9)))) 23 m4_43) (va_up I 13 m5_43) (va_up (va_up R 11 m6_43) 12 m7_43) RJ) H := hP
                have hD : va_D A (MW cy a (va_up (va_up (va_up (va_up (va_up J 19 m0_43) 20 m1_43) 21 m2_43) 22 (m3_43 ^^^ (m_alongAt (nI f9)))) 23 m4_43) (va_up I 13 m5_43) (va_up (va_up R 11 m6_43) 12 m7_43) RJ) := hD
                refine lv_aload_n hx hb dX10_extreme_92 rfl (lv_at hl 1 rfl) ?_
                refine lv_dup hx hb dX10_extreme_93 rfl ?_
                refine va_get (D := D) (ci := 9) (v := .long m4_43) (C := RX10) (T := TX10) (N := 30) hx hb hts hi10 hown hK hP 0 rfl rfl 23 (by decide) hw1 (fun _ h9 => h9) rfl dX10_extreme_94 ?_
                refine lv_iload_n hx hb dX10_extreme_97 rfl (lv_at hl 4 rfl) ?_
                refine kS_l (As := [.int (nI f9)]) (rest := [.long m4_43, .ref (a 0)]) ⟨hx, hb, hml, hown, hts⟩ (c_X10_acrossAt l (nI f9)) (va_cwS 1 hts gX10_extreme_X10_acrossAt rfl rfl rfl (by decide +kernel) ⟨Nat.le_of_ble_eq_true rfl, Nat.le_of_ble_eq_true rfl⟩) rfl hl.1 rfl (Nat.le_of_ble_eq_true rfl) dX10_extreme_98 ⟨Nat.le_of_ble_eq_true rfl, Nat.le_of_ble_eq_true rfl⟩ ?_
                refine lv_lxor hx hb dX10_extreme_101 ?_
                refine va_put (D := D) (ci := 9) (v := .long (m4_43 ^^^ (m_acrossAt (nI f9)))) (ty := .long) (C := RX10) (T := TX10) (N := 30) hx hb hts hi10 tyX10 tyX10_ok nmX10 hown hK hP hD hS 0 rfl rfl 23 (by decide) hw1 (fun _ h9 => h9) rfl (by decide +kernel) rfl rfl (Nat.le_of_ble_eq_true rfl) dX10_extreme_102 (fun H locs hP hD hS => ?_)
                have hP : va_P D vwCl (MW cy a (va_up (va_up (va_up (va_up (va_up J 19 m0_43) 20 m1_43) 21 m2_43) 22 (m3_43 ^^^ (m_alongAt (nI f9)))) 23 (m4_43 ^^^ (m_acrossAt (nI f9)))) (va_up I 13 m5_43) (va_up (va_up R 11 m6_43) 12 m7_43) RJ) H := hP
                have hD : va_D A (MW cy a (va_up (va_up (va_up (va_up (va_up J 19 m0_43) 20 m1_43) 21 m2_43) 22 (m3_43 ^^^ (m_alongAt (nI f9)))) 23 (m4_43 ^^^ (m_acrossAt (nI f9)))) (va_up I 13 m5_43) (va_up (va_up R 11 m6_43) 12 m7_43) RJ) := hD
                refine lv_iconst (v := 1) hx hb dX10_extreme_105 (by decide) ?_
                refine lv_istore_n (lv' := [(2, .int 1), (4, .int r_2), (0, .ref (a 0)), (1, .int (bI x0)), (3, .int (nI f9))]) hx hb dX10_extreme_106 rfl hl (by decide) rfl (fun ls hl => ?_)
                refine lv_iinc (v := nI (f9 + 1)) (lv' := [(3, .int (nI (f9 + 1))), (2, .int 1), (4, .int r_2), (0, .ref (a 0)), (1, .int (bI x0))]) hx hb dX10_extreme_107 hl (k := 4) rfl (nI_1 _) (by decide) rfl (fun ls hl => ?_)
                refine lv_goto (tgt := 43) hx hb dX10_extreme_110 (by decide) ?_
                exact ih43 (f9 + 1) true m0_43 m1_43 m2_43 (m3_43 ^^^ (m_alongAt (nI f9))) (m4_43 ^^^ (m_acrossAt (nI f9))) m5_43 m6_43 m7_43 hlt_f9 hm (ex_c (ex_flip hlt_f9 hdj hp_3 c_4 c_5).2 hc) (ex_flip hlt_f9 hdj hp_3 c_4 c_5).1 (lt_dec hlt_f9 hn43) _ _ hP hD hS ls (lv_sub hl [3, 4, 1, 0] rfl)
      refine lv_iload_n hx hb dX10_extreme_35 rfl (lv_at hl 2 rfl) ?_
      refine lv_if_eq (tgt := 116) hx hb dX10_extreme_36 (by decide) (fun c_6 => ?_) (fun c_6 => ?_)
      · replace c_6 := bI_f c_6
        refine lv_aload_n hx hb dX10_extreme_116 rfl (lv_at hl 0 rfl) ?_
        refine lv_aload_n hx hb dX10_extreme_117 rfl (lv_at hl 0 rfl) ?_
        refine va_get (D := D) (ci := 9) (v := .long m3_35) (C := RX10) (T := TX10) (N := 30) hx hb hts hi10 hown hK hP 0 rfl rfl 22 (by decide) hw0 (fun _ h9 => h9) rfl dX10_extreme_118 ?_
        refine lv_aload_n hx hb dX10_extreme_121 rfl (lv_at hl 0 rfl) ?_
        refine va_get (D := D) (ci := 9) (v := .long m4_35) (C := RX10) (T := TX10) (N := 30) hx hb hts hi10 hown hK hP 0 rfl rfl 23 (by decide) hw1 (fun _ h9 => h9) rfl dX10_extreme_122 ?_
        refine kM_i (As := [.long m3_35, .long m4_35]) (rest := []) (q0 := 0) ⟨hx, hb, hml, hown, hts⟩ (t_X10_numberOf l D cy a _ (va_up (va_up (va_up (va_up (va_up J 19 m0_35) 20 m1_35) 21 m2_35) 22 m3_35) 23 m4_35) (va_up I 13 m5_35) (va_up (va_up R 11 m6_35) 12 m7_35) RJ m3_35 m4_35  ) (cwV 2 hts gX10_extreme_X10_numberOf rfl rfl rfl (by decide +kernel) ⟨Nat.le_of_ble_eq_true rfl, Nat.le_of_ble_eq_true rfl⟩) hK hN hP hD hS hA rfl rfl rfl hl.1 rfl (Nat.le_of_ble_eq_true rfl) dX10_extreme_125 ⟨Nat.le_of_ble_eq_true rfl, Nat.le_of_ble_eq_true rfl⟩ (fun r_7 u H locs hw hP hD hS => ?_)
        obtain ⟨-, rfl⟩ := hw
        have hP : va_P D vwCl (MW cy a (va_up (va_up (va_up (va_up (va_up J 19 m0_35) 20 m1_35) 21 m2_35) 22 m3_35) 23 m4_35) (va_up I 13 m5_35) (va_up (va_up R 11 m6_35) 12 m7_35) RJ) H := hP
        have hD : va_D A (MW cy a (va_up (va_up (va_up (va_up (va_up J 19 m0_35) 20 m1_35) 21 m2_35) 22 m3_35) 23 m4_35) (va_up I 13 m5_35) (va_up (va_up R 11 m6_35) 12 m7_35) RJ) := hD
        exact wret_i hx hb hr hlocks ((va_up (va_up (va_up (va_up (va_up J 19 m0_35) 20 m1_35) 21 m2_35) 22 m3_35) 23 m4_35), (va_up I 13 m5_35), (va_up (va_up R 11 m6_35) 12 m7_35), RJ) ⟨m0_35, m1_35, m2_35, m3_35, m4_35, m5_35, m6_35, m7_35, trivial, rfl⟩ hP hD hS dX10_extreme_128
      · replace c_6 := bI_t c_6
        refine lv_iconst (v := 0) hx hb dX10_extreme_39 (by decide) ?_
        refine lv_istore_n (lv' := [(2, .int 0), (0, .ref (a 0)), (1, .int (bI x0))]) hx hb dX10_extreme_40 rfl hl (by decide) rfl (fun ls hl => ?_)
        refine lv_iconst (v := 0) hx hb dX10_extreme_41 (by decide) ?_
        refine lv_istore_n (lv' := [(3, .int 0), (2, .int 0), (0, .ref (a 0)), (1, .int (bI x0))]) hx hb dX10_extreme_42 rfl hl (by decide) rfl (fun ls hl => ?_)
        exact lp43 _ 0 false m0_35 m1_35 m2_35 m3_35 m4_35 m5_35 m6_35 m7_35 (Nat.zero_le _) c_6 ps_no hdj (Nat.lt_succ_self _) _ _ hP hD hS ls (lv_sub hl [2, 3, 1, 0] rfl)
  refine lv_aload_n hx hb dX10_extreme_0 rfl (lv_at hl 0 rfl) ?_
  refine kM_i (As := []) (rest := []) (q0 := 0) ⟨hx, hb, hml, hown, hts⟩ (t_X10_isWhole l D cy a _ (va_up (va_up (va_up (va_up (va_up J 19 (J 19)) 20 (J 20)) 21 (J 21)) 22 (J 22)) 23 (J 23)) (va_up I 13 (I 13)) (va_up (va_up R 11 (R 11)) 12 (R 12)) RJ   ⟨hM.1, hM.2.1, hM.2.2.1, hM.2.2.2.1, hM.2.2.2.2.1, hM.2.2.2.2.2⟩) (cwV 0 hts gX10_extreme_X10_isWhole rfl rfl rfl (by decide +kernel) ⟨Nat.le_of_ble_eq_true rfl, Nat.le_of_ble_eq_true rfl⟩) hK hN hP hD hS hA rfl rfl rfl hl.1 rfl (Nat.le_of_ble_eq_true rfl) dX10_extreme_1 ⟨Nat.le_of_ble_eq_true rfl, Nat.le_of_ble_eq_true rfl⟩ (fun r_8 u H locs hw hP hD hS => ?_)
  obtain ⟨w_9, zb_10, ⟨rfl, hp_11⟩, rfl⟩ := hw
  have hP : va_P D vwCl (MW cy a (va_up (va_up (va_up (va_up (va_up J 19 (J 19)) 20 (J 20)) 21 (J 21)) 22 (J 22)) 23 (J 23)) (va_up I 13 (I 13)) (va_up (va_up R 11 w_9) 12 (R 12)) RJ) H := hP
  have hD : va_D A (MW cy a (va_up (va_up (va_up (va_up (va_up J 19 (J 19)) 20 (J 20)) 21 (J 21)) 22 (J 22)) 23 (J 23)) (va_up I 13 (I 13)) (va_up (va_up R 11 w_9) 12 (R 12)) RJ) := hD
  refine lv_if_ne (tgt := 14) hx hb dX10_extreme_4 (by decide) (fun c_12 => ?_) (fun c_12 => ?_)
  · replace c_12 := bI_t c_12
    refine lv_aload_n hx hb dX10_extreme_14 rfl (lv_at hl 0 rfl) ?_
    refine kM_i (As := []) (rest := []) (q0 := 0) ⟨hx, hb, hml, hown, hts⟩ (t_X10_countAll l D cy a _ (va_up (va_up (va_up (va_up (va_up J 19 (J 19)) 20 (J 20)) 21 (J 21)) 22 (J 22)) 23 (J 23)) (va_up I 13 (I 13)) (va_up (va_up R 11 w_9) 12 (R 12)) RJ   ⟨hM.1, hM.2.1, hM.2.2.1, hM.2.2.2.1, hM.2.2.2.2.1, hM.2.2.2.2.2⟩) (cwV 0 hts gX10_extreme_X10_countAll rfl rfl rfl (by decide +kernel) ⟨Nat.le_of_ble_eq_true rfl, Nat.le_of_ble_eq_true rfl⟩) hK hN hP hD hS hA rfl rfl rfl hl.1 rfl (Nat.le_of_ble_eq_true rfl) dX10_extreme_15 ⟨Nat.le_of_ble_eq_true rfl, Nat.le_of_ble_eq_true rfl⟩ (fun r_13 u H locs hw hP hD hS => ?_)
    obtain ⟨w_14, w_15, w_16, w_17, ⟨hp_18, hp_19⟩, rfl⟩ := hw
    have hP : va_P D vwCl (MW cy a (va_up (va_up (va_up (va_up (va_up J 19 w_14) 20 w_15) 21 w_16) 22 (J 22)) 23 (J 23)) (va_up I 13 (I 13)) (va_up (va_up R 11 w_9) 12 w_17) RJ) H := hP
    have hD : va_D A (MW cy a (va_up (va_up (va_up (va_up (va_up J 19 w_14) 20 w_15) 21 w_16) 22 (J 22)) 23 (J 23)) (va_up I 13 (I 13)) (va_up (va_up R 11 w_9) 12 w_17) RJ) := hD
    refine lv_if_ne (tgt := 28) hx hb dX10_extreme_18 (by decide) (fun c_20 => ?_) (fun c_20 => ?_)
    · refine lv_aload_n hx hb dX10_extreme_28 rfl (lv_at hl 0 rfl) ?_
      refine lv_iconst (v := 0) hx hb dX10_extreme_29 (by decide) ?_
      refine kM_v (As := [.int 0]) (rest := []) (q0 := 0) ⟨hx, hb, hml, hown, hts⟩ (t_X10_walkD l D cy a _ (va_up (va_up (va_up (va_up (va_up J 19 w_14) 20 w_15) 21 w_16) 22 (J 22)) 23 (J 23)) (va_up I 13 (I 13)) (va_up (va_up R 11 w_9) 12 w_17) RJ 0 (by decide) hp_19 ) (cwV 1 hts gX10_extreme_X10_walk rfl rfl rfl (by decide +kernel) ⟨Nat.le_of_ble_eq_true rfl, Nat.le_of_ble_eq_true rfl⟩) hK hN hP hD hS hA rfl rfl rfl hl.1 rfl (Nat.le_of_ble_eq_true rfl) dX10_extreme_30 ⟨Nat.le_of_ble_eq_true rfl, Nat.le_of_ble_eq_true rfl⟩ (fun u H locs hw hP hD hS => ?_)
      obtain ⟨w_22, w_23, hp_24, rfl⟩ := hw
      have hP : va_P D vwCl (MW cy a (va_up (va_up (va_up (va_up (va_up J 19 w_14) 20 w_15) 21 w_16) 22 w_22) 23 w_23) (va_up I 13 (I 13)) (va_up (va_up R 11 w_9) 12 w_17) RJ) H := hP
      have hD : va_D A (MW cy a (va_up (va_up (va_up (va_up (va_up J 19 w_14) 20 w_15) 21 w_16) 22 w_22) 23 w_23) (va_up I 13 (I 13)) (va_up (va_up R 11 w_9) 12 w_17) RJ) := hD
      refine lv_iconst (v := 1) hx hb dX10_extreme_33 (by decide) ?_
      refine lv_istore_n (lv' := [(2, .int 1), (0, .ref (a 0)), (1, .int (bI x0))]) hx hb dX10_extreme_34 rfl hl (by decide) rfl (fun ls hl => ?_)
      exact lp35 _ true w_14 w_15 w_16 w_22 w_23 (I 13) w_9 w_17 hp_24 (Nat.lt_succ_self _) _ _ hP hD hS ls (lv_sub hl [1, 2, 0] rfl)
    · refine lv_aload_n hx hb dX10_extreme_21 rfl (lv_at hl 0 rfl) ?_
      refine lv_ldc (v := (-100006)) hx hb hown hw2 dX10_extreme_22 ?_
      refine kM_i (As := [.int (-100006)]) (rest := []) (q0 := 0) ⟨hx, hb, hml, hown, hts⟩ (c_X10_finding l D cy a _ (va_up (va_up (va_up (va_up (va_up J 19 w_14) 20 w_15) 21 w_16) 22 (J 22)) 23 (J 23)) (va_up I 13 (I 13)) (va_up (va_up R 11 w_9) 12 w_17) RJ (-100006) ) (cwV 1 hts gX10_extreme_X10_finding rfl rfl rfl (by decide +kernel) ⟨Nat.le_of_ble_eq_true rfl, Nat.le_of_ble_eq_true rfl⟩) hK hN hP hD hS hA rfl rfl rfl hl.1 rfl (Nat.le_of_ble_eq_true rfl) dX10_extreme_24 ⟨Nat.le_of_ble_eq_true rfl, Nat.le_of_ble_eq_true rfl⟩ (fun r_25 u H locs hw hP hD hS => ?_)
      obtain ⟨rfl, rfl⟩ := hw
      have hP : va_P D vwCl (MW cy a (va_up (va_up (va_up (va_up (va_up J 19 w_14) 20 w_15) 21 w_16) 22 (J 22)) 23 (J 23)) (va_up I 13 ((I 13) + 1)) (va_up (va_up R 11 w_9) 12 w_17) RJ) H := hP
      have hD : va_D A (MW cy a (va_up (va_up (va_up (va_up (va_up J 19 w_14) 20 w_15) 21 w_16) 22 (J 22)) 23 (J 23)) (va_up I 13 ((I 13) + 1)) (va_up (va_up R 11 w_9) 12 w_17) RJ) := hD
      exact wret_i hx hb hr hlocks ((va_up (va_up (va_up (va_up (va_up J 19 w_14) 20 w_15) 21 w_16) 22 (J 22)) 23 (J 23)), (va_up I 13 ((I 13) + 1)), (va_up (va_up R 11 w_9) 12 w_17), RJ) ⟨w_14, w_15, w_16, (J 22), (J 23), ((I 13) + 1), w_9, w_17, trivial, rfl⟩ hP hD hS dX10_extreme_27
  · replace c_12 := bI_f c_12
    refine lv_aload_n hx hb dX10_extreme_7 rfl (lv_at hl 0 rfl) ?_
    refine lv_ldc (v := (-100004)) hx hb hown hw3 dX10_extreme_8 ?_
    refine kM_i (As := [.int (-100004)]) (rest := []) (q0 := 0) ⟨hx, hb, hml, hown, hts⟩ (c_X10_finding l D cy a _ (va_up (va_up (va_up (va_up (va_up J 19 (J 19)) 20 (J 20)) 21 (J 21)) 22 (J 22)) 23 (J 23)) (va_up I 13 (I 13)) (va_up (va_up R 11 w_9) 12 (R 12)) RJ (-100004) ) (cwV 1 hts gX10_extreme_X10_finding rfl rfl rfl (by decide +kernel) ⟨Nat.le_of_ble_eq_true rfl, Nat.le_of_ble_eq_true rfl⟩) hK hN hP hD hS hA rfl rfl rfl hl.1 rfl (Nat.le_of_ble_eq_true rfl) dX10_extreme_10 ⟨Nat.le_of_ble_eq_true rfl, Nat.le_of_ble_eq_true rfl⟩ (fun r_26 u H locs hw hP hD hS => ?_)
    obtain ⟨rfl, rfl⟩ := hw
    have hP : va_P D vwCl (MW cy a (va_up (va_up (va_up (va_up (va_up J 19 (J 19)) 20 (J 20)) 21 (J 21)) 22 (J 22)) 23 (J 23)) (va_up I 13 ((I 13) + 1)) (va_up (va_up R 11 w_9) 12 (R 12)) RJ) H := hP
    have hD : va_D A (MW cy a (va_up (va_up (va_up (va_up (va_up J 19 (J 19)) 20 (J 20)) 21 (J 21)) 22 (J 22)) 23 (J 23)) (va_up I 13 ((I 13) + 1)) (va_up (va_up R 11 w_9) 12 (R 12)) RJ) := hD
    exact wret_i hx hb hr hlocks ((va_up (va_up (va_up (va_up (va_up J 19 (J 19)) 20 (J 20)) 21 (J 21)) 22 (J 22)) 23 (J 23)), (va_up I 13 ((I 13) + 1)), (va_up (va_up R 11 w_9) 12 (R 12)), RJ) ⟨(J 19), (J 20), (J 21), (J 22), (J 23), ((I 13) + 1), w_9, (R 12), trivial, rfl⟩ hP hD hS dX10_extreme_13
