theorem dX10_newFloor_49 : decode cX10_newFloor 49 = .ok (.iload_n 3, 1) := by decide +kernel
theorem dX10_newFloor_50 : decode cX10_newFloor 50 = .ok (.aload_n 0, 1) := by decide +kernel
theorem dX10_newFloor_51 : decode cX10_newFloor 51 = .ok (.getfield 85, 3) := by decide +kernel
theorem dX10_newFloor_54 : decode cX10_newFloor 54 = .ok (.if_icmp .ge 42, 3) := by decide +kernel
theorem dX10_newFloor_96 : decode cX10_newFloor 96 = .ok (.aload_n 0, 1) := by decide +kernel
set_option maxRecDepth 20000 in
theorem ggX10_newFloor_X10_keep : GoodIn wsX10_newFloor wsX10_keep := goodIn_r _ [47, 48, 49, 50, 51, 52, 53, 54, 5, 1, 55, 56, 57, 11, 61, 62, 63, 64, 65, 66, 67, 68, 69, 70, 71, 72, 73, 74, 75, 76, 77, 78, 79, 80, 81, 82, 83, 84, 85, 86, 87, 88, 89, 90] rfl (by decide +kernel)
set_option maxRecDepth 20000 in
theorem gX10_newFloor_X10_keep : GoodIn wsX10_newFloor (wsV RX10 134 RX10 yX10_keep wsX10_keep) := goodIn_app (goodIn_r _ [44, 45, 46, 9] rfl (by decide +kernel)) ggX10_newFloor_X10_keep
theorem dX10_newFloor_97 : decode cX10_newFloor 97 = .ok (.invokevirtual 134, 3) := by decide +kernel
theorem dX10_newFloor_100 : decode cX10_newFloor 100 = .ok (.aload_n 0, 1) := by decide +kernel
theorem dX10_newFloor_101 : decode cX10_newFloor 101 = .ok (.lload_n 1, 1) := by decide +kernel
theorem dX10_newFloor_102 : decode cX10_newFloor 102 = .ok (.putfield 81, 3) := by decide +kernel
theorem dX10_newFloor_105 : decode cX10_newFloor 105 = .ok (.aload_n 0, 1) := by decide +kernel
theorem dX10_newFloor_106 : decode cX10_newFloor 106 = .ok (.getfield 81, 3) := by decide +kernel
set_option maxRecDepth 20000 in
theorem ggX10_newFloor_X10_many : GoodIn wsX10_newFloor wsX10_many := goodIn_r _ [60, 41, 42, 9, 43] rfl (by decide +kernel)
set_option maxRecDepth 20000 in
theorem gX10_newFloor_X10_many : GoodIn wsX10_newFloor (va_wsS RX10 137 yX10_many wsX10_many) := goodIn_app (goodIn_r _ [58, 59, 9] rfl (by decide +kernel)) ggX10_newFloor_X10_many
theorem dX10_newFloor_109 : decode cX10_newFloor 109 = .ok (.invokestatic 137, 3) := by decide +kernel
theorem dX10_newFloor_112 : decode cX10_newFloor 112 = .ok (.ireturn, 1) := by decide +kernel
theorem dX10_newFloor_57 : decode cX10_newFloor 57 = .ok (.aload_n 0, 1) := by decide +kernel
theorem dX10_newFloor_58 : decode cX10_newFloor 58 = .ok (.iload_n 3, 1) := by decide +kernel
set_option maxRecDepth 20000 in
theorem ggX10_newFloor_X10_kindOf : GoodIn wsX10_newFloor wsX10_kindOf := goodIn_r _ [28, 11, 61, 62, 63, 64, 65, 66, 67, 68, 69, 70, 71, 72, 73, 74, 75, 76, 77, 78, 79, 80, 81, 82, 83, 84, 85, 86, 87, 88, 89, 90] rfl (by decide +kernel)
set_option maxRecDepth 20000 in
theorem gX10_newFloor_X10_kindOf : GoodIn wsX10_newFloor (wsV RX10 103 RX10 yX10_kindOf wsX10_kindOf) := goodIn_app (goodIn_r _ [25, 26, 27, 9] rfl (by decide +kernel)) ggX10_newFloor_X10_kindOf
theorem dX10_newFloor_59 : decode cX10_newFloor 59 = .ok (.invokevirtual 103, 3) := by decide +kernel
theorem dX10_newFloor_62 : decode cX10_newFloor 62 = .ok (.iconst 3, 1) := by decide +kernel
theorem dX10_newFloor_63 : decode cX10_newFloor 63 = .ok (.if_icmp .ne 27, 3) := by decide +kernel
theorem dX10_newFloor_90 : decode cX10_newFloor 90 = .ok (.iinc 3 1, 3) := by decide +kernel
theorem dX10_newFloor_93 : decode cX10_newFloor 93 = .ok (.goto (-44), 3) := by decide +kernel
theorem dX10_newFloor_66 : decode cX10_newFloor 66 = .ok (.lload_n 1, 1) := by decide +kernel
theorem dX10_newFloor_67 : decode cX10_newFloor 67 = .ok (.aload_n 0, 1) := by decide +kernel
theorem dX10_newFloor_68 : decode cX10_newFloor 68 = .ok (.iload_n 3, 1) := by decide +kernel
set_option maxRecDepth 20000 in
theorem ggX10_newFloor_X10_fieldOf : GoodIn wsX10_newFloor wsX10_fieldOf := goodIn_r _ [10, 11, 61, 62, 63, 64, 65, 66, 67, 68, 69, 70, 71, 72, 73, 74, 75, 76, 77, 78, 79, 80, 81, 82, 83, 84, 85, 86, 87, 88, 89, 90] rfl (by decide +kernel)
set_option maxRecDepth 20000 in
theorem gX10_newFloor_X10_fieldOf : GoodIn wsX10_newFloor (wsV RX10 115 RX10 yX10_fieldOf wsX10_fieldOf) := goodIn_app (goodIn_r _ [6, 7, 8, 9] rfl (by decide +kernel)) ggX10_newFloor_X10_fieldOf
theorem dX10_newFloor_69 : decode cX10_newFloor 69 = .ok (.invokevirtual 115, 3) := by decide +kernel
theorem dX10_newFloor_72 : decode cX10_newFloor 72 = .ok (.aload_n 0, 1) := by decide +kernel
theorem dX10_newFloor_73 : decode cX10_newFloor 73 = .ok (.iload_n 3, 1) := by decide +kernel
set_option maxRecDepth 20000 in
theorem ggX10_newFloor_X10_isAcross : GoodIn wsX10_newFloor wsX10_isAcross := goodIn_r _ [15, 11, 61, 62, 63, 64, 65, 66, 67, 68, 69, 70, 71, 72, 73, 74, 75, 76, 77, 78, 79, 80, 81, 82, 83, 84, 85, 86, 87, 88, 89, 90] rfl (by decide +kernel)
set_option maxRecDepth 20000 in
theorem gX10_newFloor_X10_isAcross : GoodIn wsX10_newFloor (wsV RX10 118 RX10 yX10_isAcross wsX10_isAcross) := goodIn_app (goodIn_r _ [12, 13, 14, 9] rfl (by decide +kernel)) ggX10_newFloor_X10_isAcross
theorem dX10_newFloor_74 : decode cX10_newFloor 74 = .ok (.invokevirtual 118, 3) := by decide +kernel
set_option maxRecDepth 20000 in
theorem ggX10_newFloor_X10_isAtEdge : GoodIn wsX10_newFloor wsX10_isAtEdge := goodIn_r _ [31, 32, 33, 9, 34, 35, 36, 37, 38, 39, 40, 41, 42, 43] rfl (by decide +kernel)
set_option maxRecDepth 20000 in
theorem gX10_newFloor_X10_isAtEdge : GoodIn wsX10_newFloor (va_wsS RX10 129 yX10_isAtEdge wsX10_isAtEdge) := goodIn_app (goodIn_r _ [29, 30, 9] rfl (by decide +kernel)) ggX10_newFloor_X10_isAtEdge
theorem dX10_newFloor_77 : decode cX10_newFloor 77 = .ok (.invokestatic 129, 3) := by decide +kernel
theorem dX10_newFloor_80 : decode cX10_newFloor 80 = .ok (.ifCond .ne 10, 3) := by decide +kernel
theorem dX10_newFloor_83 : decode cX10_newFloor 83 = .ok (.aload_n 0, 1) := by decide +kernel
theorem dX10_newFloor_84 : decode cX10_newFloor 84 = .ok (.ldc 133, 2) := by decide +kernel
set_option maxRecDepth 20000 in
theorem ggX10_newFloor_X10_finding : GoodIn wsX10_newFloor wsX10_finding := goodIn_r _ [23, 24, 61, 62, 63, 64, 65, 66, 67, 68, 69, 70, 71, 72, 73, 74, 75, 76, 77, 78, 79, 80, 81, 82, 83, 84, 85, 86, 87, 88, 89, 90] rfl (by decide +kernel)
set_option maxRecDepth 20000 in
theorem gX10_newFloor_X10_finding : GoodIn wsX10_newFloor (wsV RX10 99 RX10 yX10_finding wsX10_finding) := goodIn_app (goodIn_r _ [20, 21, 22, 9] rfl (by decide +kernel)) ggX10_newFloor_X10_finding
theorem dX10_newFloor_86 : decode cX10_newFloor 86 = .ok (.invokevirtual 99, 3) := by decide +kernel
theorem dX10_newFloor_89 : decode cX10_newFloor 89 = .ok (.ireturn, 1) := by decide +kernel
theorem dX10_newFloor_2 : decode cX10_newFloor 2 = .ok (.iload_n 3, 1) := by decide +kernel
theorem dX10_newFloor_3 : decode cX10_newFloor 3 = .ok (.aload_n 0, 1) := by decide +kernel
theorem dX10_newFloor_4 : decode cX10_newFloor 4 = .ok (.getfield 85, 3) := by decide +kernel
theorem dX10_newFloor_7 : decode cX10_newFloor 7 = .ok (.if_icmp .ge 40, 3) := by decide +kernel
theorem dX10_newFloor_47 : decode cX10_newFloor 47 = .ok (.iconst 0, 1) := by decide +kernel
theorem dX10_newFloor_48 : decode cX10_newFloor 48 = .ok (.istore_n 3, 1) := by decide +kernel
theorem dX10_newFloor_10 : decode cX10_newFloor 10 = .ok (.aload_n 0, 1) := by decide +kernel
theorem dX10_newFloor_11 : decode cX10_newFloor 11 = .ok (.iload_n 3, 1) := by decide +kernel
theorem dX10_newFloor_12 : decode cX10_newFloor 12 = .ok (.invokevirtual 115, 3) := by decide +kernel
theorem dX10_newFloor_15 : decode cX10_newFloor 15 = .ok (.aload_n 0, 1) := by decide +kernel
theorem dX10_newFloor_16 : decode cX10_newFloor 16 = .ok (.iload_n 3, 1) := by decide +kernel
theorem dX10_newFloor_17 : decode cX10_newFloor 17 = .ok (.invokevirtual 118, 3) := by decide +kernel
set_option maxRecDepth 20000 in
theorem ggX10_newFloor_X10_place : GoodIn wsX10_newFloor wsX10_place := goodIn_r _ [18, 19] rfl (by decide +kernel)
set_option maxRecDepth 20000 in
theorem gX10_newFloor_X10_place : GoodIn wsX10_newFloor (va_wsS RX10 122 yX10_place wsX10_place) := goodIn_app (goodIn_r _ [16, 17, 9] rfl (by decide +kernel)) ggX10_newFloor_X10_place
theorem dX10_newFloor_20 : decode cX10_newFloor 20 = .ok (.invokestatic 122, 3) := by decide +kernel
theorem dX10_newFloor_23 : decode cX10_newFloor 23 = .ok (.lload_n 1, 1) := by decide +kernel
theorem dX10_newFloor_24 : decode cX10_newFloor 24 = .ok (.ldc2_w 126, 3) := by decide +kernel
theorem dX10_newFloor_27 : decode cX10_newFloor 27 = .ok (.lxor, 1) := by decide +kernel
theorem dX10_newFloor_28 : decode cX10_newFloor 28 = .ok (.land, 1) := by decide +kernel
theorem dX10_newFloor_29 : decode cX10_newFloor 29 = .ok (.lconst 0, 1) := by decide +kernel
theorem dX10_newFloor_30 : decode cX10_newFloor 30 = .ok (.lcmp, 1) := by decide +kernel
theorem dX10_newFloor_31 : decode cX10_newFloor 31 = .ok (.ifCond .eq 10, 3) := by decide +kernel
theorem dX10_newFloor_41 : decode cX10_newFloor 41 = .ok (.iinc 3 1, 3) := by decide +kernel
theorem dX10_newFloor_44 : decode cX10_newFloor 44 = .ok (.goto (-42), 3) := by decide +kernel
theorem dX10_newFloor_34 : decode cX10_newFloor 34 = .ok (.aload_n 0, 1) := by decide +kernel
theorem dX10_newFloor_35 : decode cX10_newFloor 35 = .ok (.ldc 128, 2) := by decide +kernel
theorem dX10_newFloor_37 : decode cX10_newFloor 37 = .ok (.invokevirtual 99, 3) := by decide +kernel
theorem dX10_newFloor_40 : decode cX10_newFloor 40 = .ok (.ireturn, 1) := by decide +kernel
theorem dX10_newFloor_0 : decode cX10_newFloor 0 = .ok (.iconst 0, 1) := by decide +kernel
theorem dX10_newFloor_1 : decode cX10_newFloor 1 = .ok (.istore_n 3, 1) := by decide +kernel
set_option maxRecDepth 20000 in
theorem ihX10_newFloor_10 : ∀ w ∈ u_ws RX10 TX10 30, w ∈ wsX10_newFloor := fun _ h => List.mem_cons_of_mem _ (List.mem_append_right _ h)
set_option maxHeartbeats 4000000 in
set_option maxRecDepth 100000 in
theorem x_X10_newFloor (l : Launch) (D : va_G) (cy : Nat → ClassId) (a : Nat → Nat) (sz : Nat) (J : Nat → Int64) (I : Nat → Int32) (R : Nat → Nat → Int32) (RJ : Nat → Nat → Int64) (x0 : Int64) (fl : Int64) (S : List Int32) (P : List PE) (hRA : RMf (J 0) (I 1) (I 12) (R 1) (R 3) (R 4) (RJ 2) fl S P) (hM : MI I R) : Met l yX10_newFloor wsX10_newFloor ({ frames := 4, cells := 0, slots := 0, locals := 92 }) (va_Pc [.ref (a 0), .long x0] (PW D cy sz (MW cy a J I R RJ))) (va_Qi (fun r (u : MS) => ∃ (w0 : Int64), ∃ (w1 : Int32), ∃ (w2 : Int32), ∃ (w3 : Int32), ∃ (w4 : Nat → Int32), ∃ (w5 : Nat → Int32), ∃ (w6 : Nat → Int32), ∃ (w7 : Nat → Int64), ∃ (w8 : Nat → Int64), ∃ (w9 : Nat → Int64), (r = (aBecA S x0) ∧ (isB w1) ∧ (vp_in w2 21) ∧ (∀ i, i < 20 → vp_in (w4 i) 21) ∧ (∀ i, i < 20 → isB (w6 i)) ∧ (RMf w0 (I 1) w2 (R 1) w4 w5 w7 (aFl fl S x0) S (aPs fl S P x0))) ∧ u = ((va_up J 0 w0), (va_up (va_up (va_up I 3 w1) 12 w2) 13 w3), (va_up (va_up (va_up R 3 w4) 4 w5) 5 w6), (va_up (va_up (va_up RJ 2 w7) 6 w8) 7 w9))) (BW D (va_A (MW cy a J I R RJ) sz) (MWu cy a)) (va_A (MW cy a J I R RJ) sz)) 0 0 (va_A (MW cy a J I R RJ) sz) := by
  refine Met.ofW (cc := cX10_newFloor) (maxL := 4) (ret := (some .int)) (by decide) rfl ?_
  intro p e s m args below meth c s₁ B hml hv
  obtain ⟨rfl, rfl, hP, hK, hN, hD0⟩ := hv
  have hx := B.exec
  have hb := B.bytes
  have hr := B.returns
  have hts := atoms_spec (ws := wsX10_newFloor) B.pre
  have hown : s.vm.findClass RX10 = some m.cls := findClass_of_methodNamed B.named
  have hlocks := B.notSynchronized
  have hw0 := hts (.fieldLink RX10 85 "ParquetLayerModel" "stones" "I") (by decide +kernel)
  have hw1 := hts (.fieldLink RX10 81 "ParquetLayerModel" "floor" "J") (by decide +kernel)
  have hw2 := hts (.constant RX10 133 (-100004)) (by decide +kernel)
  have hw3 := hts (.constantLong RX10 126 (-1)) (by decide +kernel)
  have hw4 := hts (.constant RX10 128 (-100007)) (by decide +kernel)
  have hi10 := ihX10_newFloor_10
  have hD := hD0.self (sz := s.heap.size)
  generalize hAe : va_A (MW cy a J I R RJ) s.heap.size = A at hD ⊢
  have hA : ∀ q : Nat, s.heap.size ≤ q → A q := fun q h => by rw [← hAe]; exact Or.inr h
  have hS : va_S A s.heap s.heap [] := va_S.rf
  have hl := lv_entry ([.ref (a 0), .long x0]) (n := 4) (Nat.le_of_ble_eq_true rfl)
  rw [lg_entry_eq]
  generalize (lg_sl ([.ref (a 0), .long x0]) ++ List.replicate (4 - (lg_sl ([.ref (a 0), .long x0])).length) Slot.unset).toArray = ls at hl ⊢
  have hl : lv_has ls 4 [(0, .ref (a 0)), (1, .long x0)] := hl
  obtain ⟨ns, hns, hI1, hSe⟩ := hRA.2.1
  have hP : va_P D vwCl (MW cy a (va_up J 0 (J 0)) (va_up (va_up (va_up I 3 (I 3)) 12 (I 12)) 13 (I 13)) (va_up (va_up (va_up R 3 (R 3)) 4 (R 4)) 5 (R 5)) (va_up (va_up (va_up RJ 2 (RJ 2)) 6 (RJ 6)) 7 (RJ 7))) s.heap := hP
  have hD : va_D A (MW cy a (va_up J 0 (J 0)) (va_up (va_up (va_up I 3 (I 3)) 12 (I 12)) 13 (I 13)) (va_up (va_up (va_up R 3 (R 3)) 4 (R 4)) 5 (R 5)) (va_up (va_up (va_up RJ 2 (RJ 2)) 6 (RJ 6)) 7 (RJ 7))) := hD
  have lp49 : ∀ (n49 : Nat), ∀ (j : Nat) (m0_49 : Int64) (m1_49 : Int32) (m2_49 : Int32) (m3_49 : Int32) (m4_49 : Nat → Int32) (m5_49 : Nat → Int32) (m6_49 : Nat → Int32) (m7_49 : Nat → Int64) (m8_49 : Nat → Int64) (m9_49 : Nat → Int64), (j ≤ ns) → (isB m1_49) → (vp_in m2_49 21) → (∀ i, i < 20 → vp_in (m4_49 i) 21) → (∀ i, i < 20 → isB (m6_49 i)) → (RMf m0_49 (I 1) m2_49 (R 1) m4_49 m5_49 m7_49 fl S P) → (S.any (tw x0) = false) → (∀ q, q < j → kd x0 (R 1 q) = false) → (ns - j) < n49 → ∀ (H : Heap) (locs : List Loc), va_P D vwCl (MW cy a (va_up J 0 m0_49) (va_up (va_up (va_up I 3 m1_49) 12 m2_49) 13 m3_49) (va_up (va_up (va_up R 3 m4_49) 4 m5_49) 5 m6_49) (va_up (va_up (va_up RJ 2 m7_49) 6 m8_49) 7 m9_49)) H → va_D A (MW cy a (va_up J 0 m0_49) (va_up (va_up (va_up I 3 m1_49) 12 m2_49) 13 m3_49) (va_up (va_up (va_up R 3 m4_49) 4 m5_49) 5 m6_49) (va_up (va_up (va_up RJ 2 m7_49) 6 m8_49) 7 m9_49)) → va_S A s.heap H locs → ∀ (ls : Array Slot), lv_has ls 4 [(0, .ref (a 0)), (1, .long x0), (3, .int (nI j))] → W p l e (headSpec wsX10_newFloor ({ frames := 4, cells := 0, slots := 0, locals := 92 })).room s m ([.ref (a 0), .long x0] : List Value).toArray below meth c H locs 0 0 (MQ below (va_Qi (fun r (u : MS) => ∃ (w0 : Int64), ∃ (w1 : Int32), ∃ (w2 : Int32), ∃ (w3 : Int32), ∃ (w4 : Nat → Int32), ∃ (w5 : Nat → Int32), ∃ (w6 : Nat → Int32), ∃ (w7 : Nat → Int64), ∃ (w8 : Nat → Int64), ∃ (w9 : Nat → Int64), (r = (aBecA S x0) ∧ (isB w1) ∧ (vp_in w2 21) ∧ (∀ i, i < 20 → vp_in (w4 i) 21) ∧ (∀ i, i < 20 → isB (w6 i)) ∧ (RMf w0 (I 1) w2 (R 1) w4 w5 w7 (aFl fl S x0) S (aPs fl S P x0))) ∧ u = ((va_up J 0 w0), (va_up (va_up (va_up I 3 w1) 12 w2) 13 w3), (va_up (va_up (va_up R 3 w4) 4 w5) 5 w6), (va_up (va_up (va_up RJ 2 w7) 6 w8) 7 w9))) (BW D A (MWu cy a)) A) ([.ref (a 0), .long x0] : List Value).toArray s 0 0 A) (F0 m 49 ls []) := by
    intro n49
    induction n49 with
    | zero => intro j m0_49 m1_49 m2_49 m3_49 m4_49 m5_49 m6_49 m7_49 m8_49 m9_49 hj hm_m1_49 hm_m2_49 hm_m4_49 hm_m6_49 hRA2 hTw hKd hn; exact absurd hn (Nat.not_lt_zero _)
    | succ n49 ih49 =>
      intro j m0_49 m1_49 m2_49 m3_49 m4_49 m5_49 m6_49 m7_49 m8_49 m9_49 hj hm_m1_49 hm_m2_49 hm_m4_49 hm_m6_49 hRA2 hTw hKd hn49 H locs hP hD hS ls hl
      refine lv_iload_n hx hb dX10_newFloor_49 rfl (lv_at hl 2 rfl) ?_
      refine lv_aload_n hx hb dX10_newFloor_50 rfl (lv_at hl 0 rfl) ?_
      refine va_get (D := D) (ci := 9) (v := .int (I 1)) (C := RX10) (T := TX10) (N := 30) hx hb hts hi10 hown hK hP 0 rfl rfl 1 (by decide) hw0 (fun _ h9 => h9) rfl dX10_newFloor_51 ?_
      refine lv_icmp_ge (tgt := 96) hx hb dX10_newFloor_54 (by decide) (fun c_1 => ?_) (fun c_1 => ?_)
      · have hie := ctr_ge (N := ns) (by omega) hj (by rw [← hI1]; exact c_1)
        refine lv_aload_n hx hb dX10_newFloor_96 rfl (lv_at hl 0 rfl) ?_
        refine kM_v (As := []) (rest := []) (q0 := 0) ⟨hx, hb, hml, hown, hts⟩ (x_X10_keep l D cy a _ (va_up J 0 m0_49) (va_up (va_up (va_up I 3 m1_49) 12 m2_49) 13 m3_49) (va_up (va_up (va_up R 3 m4_49) 4 m5_49) 5 m6_49) (va_up (va_up (va_up RJ 2 m7_49) 6 m8_49) 7 m9_49)  fl S P hRA2 ⟨hM.1, hm_m1_49, hm_m2_49, hm_m4_49, hm_m6_49, hM.2.2.2.2.2⟩) (cwV 0 hts gX10_newFloor_X10_keep rfl rfl rfl (by decide +kernel) ⟨Nat.le_of_ble_eq_true rfl, Nat.le_of_ble_eq_true rfl⟩) hK hN hP hD hS hA rfl rfl rfl hl.1 rfl (Nat.le_of_ble_eq_true rfl) dX10_newFloor_97 ⟨Nat.le_of_ble_eq_true rfl, Nat.le_of_ble_eq_true rfl⟩ (fun u H locs hw hP hD hS => ?_)
        obtain ⟨w_3, w_4, w_5, w_6, w_7, w_8, w_9, w_10, ⟨hi_11, hi_12, hi_13, hi_14, hp_15⟩, rfl⟩ := hw
        have hP : va_P D vwCl (MW cy a (va_up J 0 m0_49) (va_up (va_up (va_up I 3 w_3) 12 w_4) 13 m3_49) (va_up (va_up (va_up R 3 w_5) 4 w_6) 5 w_7) (va_up (va_up (va_up RJ 2 w_8) 6 w_9) 7 w_10)) H := hP
        have hD : va_D A (MW cy a (va_up J 0 m0_49) (va_up (va_up (va_up I 3 w_3) 12 w_4) 13 m3_49) (va_up (va_up (va_up R 3 w_5) 4 w_6) 5 w_7) (va_up (va_up (va_up RJ 2 w_8) 6 w_9) 7 w_10)) := hD
        refine lv_aload_n hx hb dX10_newFloor_100 rfl (lv_at hl 0 rfl) ?_
        refine lv_lload_n hx hb dX10_newFloor_101 rfl (lv_at hl 1 rfl) ?_
        refine va_put (D := D) (ci := 9) (v := .long x0) (ty := .long) (C := RX10) (T := TX10) (N := 30) hx hb hts hi10 tyX10 tyX10_ok nmX10 hown hK hP hD hS 0 rfl rfl 0 (by decide) hw1 (fun _ h9 => h9) rfl (by decide +kernel) rfl rfl (Nat.le_of_ble_eq_true rfl) dX10_newFloor_102 (fun H locs hP hD hS => ?_)
        have hP : va_P D vwCl (MW cy a (va_up J 0 x0) (va_up (va_up (va_up I 3 w_3) 12 w_4) 13 m3_49) (va_up (va_up (va_up R 3 w_5) 4 w_6) 5 w_7) (va_up (va_up (va_up RJ 2 w_8) 6 w_9) 7 w_10)) H := hP
        have hD : va_D A (MW cy a (va_up J 0 x0) (va_up (va_up (va_up I 3 w_3) 12 w_4) 13 m3_49) (va_up (va_up (va_up R 3 w_5) 4 w_6) 5 w_7) (va_up (va_up (va_up RJ 2 w_8) 6 w_9) 7 w_10)) := hD
        refine lv_aload_n hx hb dX10_newFloor_105 rfl (lv_at hl 0 rfl) ?_
        refine va_get (D := D) (ci := 9) (v := .long x0) (C := RX10) (T := TX10) (N := 30) hx hb hts hi10 hown hK hP 0 rfl rfl 0 (by decide) hw1 (fun _ h9 => h9) rfl dX10_newFloor_106 ?_
        refine kS_i (As := [.long x0]) (rest := []) ⟨hx, hb, hml, hown, hts⟩ (c_X10_many l x0) (va_cwS 1 hts gX10_newFloor_X10_many rfl rfl rfl (by decide +kernel) ⟨Nat.le_of_ble_eq_true rfl, Nat.le_of_ble_eq_true rfl⟩) rfl hl.1 rfl (Nat.le_of_ble_eq_true rfl) dX10_newFloor_109 ⟨Nat.le_of_ble_eq_true rfl, Nat.le_of_ble_eq_true rfl⟩ ?_
        exact wret_i hx hb hr hlocks ((va_up J 0 x0), (va_up (va_up (va_up I 3 w_3) 12 w_4) 13 m3_49), (va_up (va_up (va_up R 3 w_5) 4 w_6) 5 w_7), (va_up (va_up (va_up RJ 2 w_8) 6 w_9) 7 w_10)) ⟨x0, w_3, w_4, m3_49, w_5, w_6, w_7, w_8, w_9, w_10, ⟨(bec_ok (fl := fl) (P := P) hTw (any_no hSe hie hKd)).1.symm, hi_11, hi_12, hi_13, hi_14, (becM_ok hp_15 hTw (any_no hSe hie hKd))⟩, rfl⟩ hP hD hS dX10_newFloor_112
      · have hlt := ctr_lt (N := ns) (by omega) hj (by rw [← hI1]; exact c_1)
        refine lv_aload_n hx hb dX10_newFloor_57 rfl (lv_at hl 0 rfl) ?_
        refine lv_iload_n hx hb dX10_newFloor_58 rfl (lv_at hl 2 rfl) ?_
        refine kR_i (As := [.int (nI j)]) (rest := []) (q0 := 0) ⟨hx, hb, hml, hown, hts⟩ (c_X10_kindOf l D cy a _ (va_up J 0 m0_49) (va_up (va_up (va_up I 3 m1_49) 12 m2_49) 13 m3_49) (va_up (va_up (va_up R 3 m4_49) 4 m5_49) 5 m6_49) (va_up (va_up (va_up RJ 2 m7_49) 6 m8_49) 7 m9_49) (nI j) (vp_in_nI (by omega) (by decide))) (cwV 1 hts gX10_newFloor_X10_kindOf rfl rfl rfl (by decide +kernel) ⟨Nat.le_of_ble_eq_true rfl, Nat.le_of_ble_eq_true rfl⟩) hK hN hP hD rfl rfl rfl hl.1 rfl (Nat.le_of_ble_eq_true rfl) dX10_newFloor_59 ⟨Nat.le_of_ble_eq_true rfl, Nat.le_of_ble_eq_true rfl⟩ ?_
        refine lv_iconst (v := 3) hx hb dX10_newFloor_62 (by decide) ?_
        refine lv_icmp_ne (tgt := 90) hx hb dX10_newFloor_63 (by decide) (fun c_16 => ?_) (fun c_16 => ?_)
        · refine lv_iinc (v := nI (j + 1)) (lv' := [(3, .int (nI (j + 1))), (0, .ref (a 0)), (1, .long x0)]) hx hb dX10_newFloor_90 hl (k := 2) rfl (nI_1 _) (by decide) rfl (fun ls hl => ?_)
          refine lv_goto (tgt := 49) hx hb dX10_newFloor_93 (by decide) ?_
          exact ih49 (j + 1) m0_49 m1_49 m2_49 m3_49 m4_49 m5_49 m6_49 m7_49 m8_49 m9_49 (by omega) hm_m1_49 hm_m2_49 hm_m4_49 hm_m6_49 hRA2 hTw (all_s (by omega) hKd (kd_f1 c_16)) (by omega) _ _ hP hD hS ls (lv_sub hl [1, 2, 0] rfl)
        · refine lv_lload_n hx hb dX10_newFloor_66 rfl (lv_at hl 1 rfl) ?_
          refine lv_aload_n hx hb dX10_newFloor_67 rfl (lv_at hl 0 rfl) ?_
          refine lv_iload_n hx hb dX10_newFloor_68 rfl (lv_at hl 2 rfl) ?_
          refine kR_i (As := [.int (nI j)]) (rest := [.long x0]) (q0 := 0) ⟨hx, hb, hml, hown, hts⟩ (c_X10_fieldOf l D cy a _ (va_up J 0 m0_49) (va_up (va_up (va_up I 3 m1_49) 12 m2_49) 13 m3_49) (va_up (va_up (va_up R 3 m4_49) 4 m5_49) 5 m6_49) (va_up (va_up (va_up RJ 2 m7_49) 6 m8_49) 7 m9_49) (nI j) (vp_in_nI (by omega) (by decide))) (cwV 1 hts gX10_newFloor_X10_fieldOf rfl rfl rfl (by decide +kernel) ⟨Nat.le_of_ble_eq_true rfl, Nat.le_of_ble_eq_true rfl⟩) hK hN hP hD rfl rfl rfl hl.1 rfl (Nat.le_of_ble_eq_true rfl) dX10_newFloor_69 ⟨Nat.le_of_ble_eq_true rfl, Nat.le_of_ble_eq_true rfl⟩ ?_
          refine lv_aload_n hx hb dX10_newFloor_72 rfl (lv_at hl 0 rfl) ?_
          refine lv_iload_n hx hb dX10_newFloor_73 rfl (lv_at hl 2 rfl) ?_
          refine kR_i (As := [.int (nI j)]) (rest := [.int ((((R 1) (nI j).toNatClampNeg) >>> ((2 : Int32) &&& 31)) &&& 63), .long x0]) (q0 := 0) ⟨hx, hb, hml, hown, hts⟩ (c_X10_isAcross l D cy a _ (va_up J 0 m0_49) (va_up (va_up (va_up I 3 m1_49) 12 m2_49) 13 m3_49) (va_up (va_up (va_up R 3 m4_49) 4 m5_49) 5 m6_49) (va_up (va_up (va_up RJ 2 m7_49) 6 m8_49) 7 m9_49) (nI j) (vp_in_nI (by omega) (by decide))) (cwV 1 hts gX10_newFloor_X10_isAcross rfl rfl rfl (by decide +kernel) ⟨Nat.le_of_ble_eq_true rfl, Nat.le_of_ble_eq_true rfl⟩) hK hN hP hD rfl rfl rfl hl.1 rfl (Nat.le_of_ble_eq_true rfl) dX10_newFloor_74 ⟨Nat.le_of_ble_eq_true rfl, Nat.le_of_ble_eq_true rfl⟩ ?_
          refine kS_i (As := [.long x0, .int ((((R 1) (nI j).toNatClampNeg) >>> ((2 : Int32) &&& 31)) &&& 63), .int (bI (m_acr ((R 1) (nI j).toNatClampNeg)))]) (rest := []) ⟨hx, hb, hml, hown, hts⟩ (c_X10_isAtEdge l x0 ((((R 1) (nI j).toNatClampNeg) >>> ((2 : Int32) &&& 31)) &&& 63) (m_acr ((R 1) (nI j).toNatClampNeg))) (va_cwS 3 hts gX10_newFloor_X10_isAtEdge rfl rfl rfl (by decide +kernel) ⟨Nat.le_of_ble_eq_true rfl, Nat.le_of_ble_eq_true rfl⟩) rfl hl.1 rfl (Nat.le_of_ble_eq_true rfl) dX10_newFloor_77 ⟨Nat.le_of_ble_eq_true rfl, Nat.le_of_ble_eq_true rfl⟩ ?_
          refine lv_if_ne (tgt := 90) hx hb dX10_newFloor_80 (by decide) (fun c_17 => ?_) (fun c_17 => ?_)
          · replace c_17 := bI_t c_17
            refine lv_iinc (v := nI (j + 1)) (lv' := [(3, .int (nI (j + 1))), (0, .ref (a 0)), (1, .long x0)]) hx hb dX10_newFloor_90 hl (k := 2) rfl (nI_1 _) (by decide) rfl (fun ls hl => ?_)
            refine lv_goto (tgt := 49) hx hb dX10_newFloor_93 (by decide) ?_
            exact ih49 (j + 1) m0_49 m1_49 m2_49 m3_49 m4_49 m5_49 m6_49 m7_49 m8_49 m9_49 (by omega) hm_m1_49 hm_m2_49 hm_m4_49 hm_m6_49 hRA2 hTw (all_s (by omega) hKd (kd_f2 c_17)) (by omega) _ _ hP hD hS ls (lv_sub hl [1, 2, 0] rfl)
          · replace c_17 := bI_f c_17
            refine lv_aload_n hx hb dX10_newFloor_83 rfl (lv_at hl 0 rfl) ?_
            refine lv_ldc (v := (-100004)) hx hb hown hw2 dX10_newFloor_84 ?_
            refine kM_i (As := [.int (-100004)]) (rest := []) (q0 := 0) ⟨hx, hb, hml, hown, hts⟩ (c_X10_finding l D cy a _ (va_up J 0 m0_49) (va_up (va_up (va_up I 3 m1_49) 12 m2_49) 13 m3_49) (va_up (va_up (va_up R 3 m4_49) 4 m5_49) 5 m6_49) (va_up (va_up (va_up RJ 2 m7_49) 6 m8_49) 7 m9_49) (-100004) ) (cwV 1 hts gX10_newFloor_X10_finding rfl rfl rfl (by decide +kernel) ⟨Nat.le_of_ble_eq_true rfl, Nat.le_of_ble_eq_true rfl⟩) hK hN hP hD hS hA rfl rfl rfl hl.1 rfl (Nat.le_of_ble_eq_true rfl) dX10_newFloor_86 ⟨Nat.le_of_ble_eq_true rfl, Nat.le_of_ble_eq_true rfl⟩ (fun r_18 u H locs hw hP hD hS => ?_)
            obtain ⟨rfl, rfl⟩ := hw
            have hP : va_P D vwCl (MW cy a (va_up J 0 m0_49) (va_up (va_up (va_up I 3 m1_49) 12 m2_49) 13 (m3_49 + 1)) (va_up (va_up (va_up R 3 m4_49) 4 m5_49) 5 m6_49) (va_up (va_up (va_up RJ 2 m7_49) 6 m8_49) 7 m9_49)) H := hP
            have hD : va_D A (MW cy a (va_up J 0 m0_49) (va_up (va_up (va_up I 3 m1_49) 12 m2_49) 13 (m3_49 + 1)) (va_up (va_up (va_up R 3 m4_49) 4 m5_49) 5 m6_49) (va_up (va_up (va_up RJ 2 m7_49) 6 m8_49) 7 m9_49)) := hD
            exact wret_i hx hb hr hlocks ((va_up J 0 m0_49), (va_up (va_up (va_up I 3 m1_49) 12 m2_49) 13 (m3_49 + 1)), (va_up (va_up (va_up R 3 m4_49) 4 m5_49) 5 m6_49), (va_up (va_up (va_up RJ 2 m7_49) 6 m8_49) 7 m9_49)) ⟨m0_49, m1_49, m2_49, (m3_49 + 1), m4_49, m5_49, m6_49, m7_49, m8_49, m9_49, ⟨(bec_kd (fl := fl) (P := P) hTw (any_of hSe hlt hns (kd_t c_16 c_17))).1.symm, hm_m1_49, hm_m2_49, hm_m4_49, hm_m6_49, (becM_kd hRA2 hTw (any_of hSe hlt hns (kd_t c_16 c_17)))⟩, rfl⟩ hP hD hS dX10_newFloor_89
  have lp2 : ∀ (n2 : Nat), ∀ (i : Nat) (m0_2 : Int64) (m1_2 : Int32) (m2_2 : Int32) (m3_2 : Int32) (m4_2 : Nat → Int32) (m5_2 : Nat → Int32) (m6_2 : Nat → Int32) (m7_2 : Nat → Int64) (m8_2 : Nat → Int64) (m9_2 : Nat → Int64), (i ≤ ns) → (isB m1_2) → (vp_in m2_2 21) → (∀ i, i < 20 → vp_in (m4_2 i) 21) → (∀ i, i < 20 → isB (m6_2 i)) → (RMf m0_2 (I 1) m2_2 (R 1) m4_2 m5_2 m7_2 fl S P) → (∀ j, j < i → tw x0 (R 1 j) = false) → (ns - i) < n2 → ∀ (H : Heap) (locs : List Loc), va_P D vwCl (MW cy a (va_up J 0 m0_2) (va_up (va_up (va_up I 3 m1_2) 12 m2_2) 13 m3_2) (va_up (va_up (va_up R 3 m4_2) 4 m5_2) 5 m6_2) (va_up (va_up (va_up RJ 2 m7_2) 6 m8_2) 7 m9_2)) H → va_D A (MW cy a (va_up J 0 m0_2) (va_up (va_up (va_up I 3 m1_2) 12 m2_2) 13 m3_2) (va_up (va_up (va_up R 3 m4_2) 4 m5_2) 5 m6_2) (va_up (va_up (va_up RJ 2 m7_2) 6 m8_2) 7 m9_2)) → va_S A s.heap H locs → ∀ (ls : Array Slot), lv_has ls 4 [(0, .ref (a 0)), (1, .long x0), (3, .int (nI i))] → W p l e (headSpec wsX10_newFloor ({ frames := 4, cells := 0, slots := 0, locals := 92 })).room s m ([.ref (a 0), .long x0] : List Value).toArray below meth c H locs 0 0 (MQ below (va_Qi (fun r (u : MS) => ∃ (w0 : Int64), ∃ (w1 : Int32), ∃ (w2 : Int32), ∃ (w3 : Int32), ∃ (w4 : Nat → Int32), ∃ (w5 : Nat → Int32), ∃ (w6 : Nat → Int32), ∃ (w7 : Nat → Int64), ∃ (w8 : Nat → Int64), ∃ (w9 : Nat → Int64), (r = (aBecA S x0) ∧ (isB w1) ∧ (vp_in w2 21) ∧ (∀ i, i < 20 → vp_in (w4 i) 21) ∧ (∀ i, i < 20 → isB (w6 i)) ∧ (RMf w0 (I 1) w2 (R 1) w4 w5 w7 (aFl fl S x0) S (aPs fl S P x0))) ∧ u = ((va_up J 0 w0), (va_up (va_up (va_up I 3 w1) 12 w2) 13 w3), (va_up (va_up (va_up R 3 w4) 4 w5) 5 w6), (va_up (va_up (va_up RJ 2 w7) 6 w8) 7 w9))) (BW D A (MWu cy a)) A) ([.ref (a 0), .long x0] : List Value).toArray s 0 0 A) (F0 m 2 ls []) := by
    intro n2
    induction n2 with
    | zero => intro i m0_2 m1_2 m2_2 m3_2 m4_2 m5_2 m6_2 m7_2 m8_2 m9_2 hi hm_m1_2 hm_m2_2 hm_m4_2 hm_m6_2 hRA2 hT hn; exact absurd hn (Nat.not_lt_zero _)
    | succ n2 ih2 =>
      intro i m0_2 m1_2 m2_2 m3_2 m4_2 m5_2 m6_2 m7_2 m8_2 m9_2 hi hm_m1_2 hm_m2_2 hm_m4_2 hm_m6_2 hRA2 hT hn2 H locs hP hD hS ls hl
      refine lv_iload_n hx hb dX10_newFloor_2 rfl (lv_at hl 2 rfl) ?_
      refine lv_aload_n hx hb dX10_newFloor_3 rfl (lv_at hl 0 rfl) ?_
      refine va_get (D := D) (ci := 9) (v := .int (I 1)) (C := RX10) (T := TX10) (N := 30) hx hb hts hi10 hown hK hP 0 rfl rfl 1 (by decide) hw0 (fun _ h9 => h9) rfl dX10_newFloor_4 ?_
      refine lv_icmp_ge (tgt := 47) hx hb dX10_newFloor_7 (by decide) (fun c_19 => ?_) (fun c_19 => ?_)
      · have hie := ctr_ge (N := ns) (by omega) hi (by rw [← hI1]; exact c_19)
        refine lv_iconst (v := 0) hx hb dX10_newFloor_47 (by decide) ?_
        refine lv_istore_n (lv' := [(3, .int 0), (0, .ref (a 0)), (1, .long x0)]) hx hb dX10_newFloor_48 rfl hl (by decide) rfl (fun ls hl => ?_)
        exact lp49 _ 0 m0_2 m1_2 m2_2 m3_2 m4_2 m5_2 m6_2 m7_2 m8_2 m9_2 (by omega) hm_m1_2 hm_m2_2 hm_m4_2 hm_m6_2 hRA2 (any_no hSe hie hT) (fun j h => absurd h (Nat.not_lt_zero _)) (Nat.lt_succ_self _) _ _ hP hD hS ls (lv_sub hl [1, 2, 0] rfl)
      · have hlt := ctr_lt (N := ns) (by omega) hi (by rw [← hI1]; exact c_19)
        refine lv_aload_n hx hb dX10_newFloor_10 rfl (lv_at hl 0 rfl) ?_
        refine lv_iload_n hx hb dX10_newFloor_11 rfl (lv_at hl 2 rfl) ?_
        refine kR_i (As := [.int (nI i)]) (rest := []) (q0 := 0) ⟨hx, hb, hml, hown, hts⟩ (c_X10_fieldOf l D cy a _ (va_up J 0 m0_2) (va_up (va_up (va_up I 3 m1_2) 12 m2_2) 13 m3_2) (va_up (va_up (va_up R 3 m4_2) 4 m5_2) 5 m6_2) (va_up (va_up (va_up RJ 2 m7_2) 6 m8_2) 7 m9_2) (nI i) (vp_in_nI (by omega) (by decide))) (cwV 1 hts gX10_newFloor_X10_fieldOf rfl rfl rfl (by decide +kernel) ⟨Nat.le_of_ble_eq_true rfl, Nat.le_of_ble_eq_true rfl⟩) hK hN hP hD rfl rfl rfl hl.1 rfl (Nat.le_of_ble_eq_true rfl) dX10_newFloor_12 ⟨Nat.le_of_ble_eq_true rfl, Nat.le_of_ble_eq_true rfl⟩ ?_
        refine lv_aload_n hx hb dX10_newFloor_15 rfl (lv_at hl 0 rfl) ?_
        refine lv_iload_n hx hb dX10_newFloor_16 rfl (lv_at hl 2 rfl) ?_
        refine kR_i (As := [.int (nI i)]) (rest := [.int ((((R 1) (nI i).toNatClampNeg) >>> ((2 : Int32) &&& 31)) &&& 63)]) (q0 := 0) ⟨hx, hb, hml, hown, hts⟩ (c_X10_isAcross l D cy a _ (va_up J 0 m0_2) (va_up (va_up (va_up I 3 m1_2) 12 m2_2) 13 m3_2) (va_up (va_up (va_up R 3 m4_2) 4 m5_2) 5 m6_2) (va_up (va_up (va_up RJ 2 m7_2) 6 m8_2) 7 m9_2) (nI i) (vp_in_nI (by omega) (by decide))) (cwV 1 hts gX10_newFloor_X10_isAcross rfl rfl rfl (by decide +kernel) ⟨Nat.le_of_ble_eq_true rfl, Nat.le_of_ble_eq_true rfl⟩) hK hN hP hD rfl rfl rfl hl.1 rfl (Nat.le_of_ble_eq_true rfl) dX10_newFloor_17 ⟨Nat.le_of_ble_eq_true rfl, Nat.le_of_ble_eq_true rfl⟩ ?_
        refine kS_l (As := [.int ((((R 1) (nI i).toNatClampNeg) >>> ((2 : Int32) &&& 31)) &&& 63), .int (bI (m_acr ((R 1) (nI i).toNatClampNeg)))]) (rest := []) ⟨hx, hb, hml, hown, hts⟩ (c_X10_place l ((((R 1) (nI i).toNatClampNeg) >>> ((2 : Int32) &&& 31)) &&& 63) (m_acr ((R 1) (nI i).toNatClampNeg))) (va_cwS 2 hts gX10_newFloor_X10_place rfl rfl rfl (by decide +kernel) ⟨Nat.le_of_ble_eq_true rfl, Nat.le_of_ble_eq_true rfl⟩) rfl hl.1 rfl (Nat.le_of_ble_eq_true rfl) dX10_newFloor_20 ⟨Nat.le_of_ble_eq_true rfl, Nat.le_of_ble_eq_true rfl⟩ ?_
        refine lv_lload_n hx hb dX10_newFloor_23 rfl (lv_at hl 1 rfl) ?_
        refine lv_ldc2 (v := (-1)) hx hb hown hw3 dX10_newFloor_24 ?_
        refine lv_lxor hx hb dX10_newFloor_27 ?_
        refine lv_land hx hb dX10_newFloor_28 ?_
        refine lv_lconst (v := 0) hx hb dX10_newFloor_29 (by decide) ?_
        refine W.lcmp hx hb dX10_newFloor_30 ?_
        refine lv_if_eq (tgt := 41) hx hb dX10_newFloor_31 (by decide) (fun c_20 => ?_) (fun c_20 => ?_)
        · replace c_20 := (lg_cmp_eq _ _).mp c_20
          refine lv_iinc (v := nI (i + 1)) (lv' := [(3, .int (nI (i + 1))), (0, .ref (a 0)), (1, .long x0)]) hx hb dX10_newFloor_41 hl (k := 2) rfl (nI_1 _) (by decide) rfl (fun ls hl => ?_)
          refine lv_goto (tgt := 2) hx hb dX10_newFloor_44 (by decide) ?_
          exact ih2 (i + 1) m0_2 m1_2 m2_2 m3_2 m4_2 m5_2 m6_2 m7_2 m8_2 m9_2 (by omega) hm_m1_2 hm_m2_2 hm_m4_2 hm_m6_2 hRA2 (all_s (by omega) hT (tw_f c_20)) (by omega) _ _ hP hD hS ls (lv_sub hl [1, 2, 0] rfl)
        · replace c_20 := fun z => c_20 ((lg_cmp_eq _ _).mpr z)
          refine lv_aload_n hx hb dX10_newFloor_34 rfl (lv_at hl 0 rfl) ?_
          refine lv_ldc (v := (-100007)) hx hb hown hw4 dX10_newFloor_35 ?_
          refine kM_i (As := [.int (-100007)]) (rest := []) (q0 := 0) ⟨hx, hb, hml, hown, hts⟩ (c_X10_finding l D cy a _ (va_up J 0 m0_2) (va_up (va_up (va_up I 3 m1_2) 12 m2_2) 13 m3_2) (va_up (va_up (va_up R 3 m4_2) 4 m5_2) 5 m6_2) (va_up (va_up (va_up RJ 2 m7_2) 6 m8_2) 7 m9_2) (-100007) ) (cwV 1 hts gX10_newFloor_X10_finding rfl rfl rfl (by decide +kernel) ⟨Nat.le_of_ble_eq_true rfl, Nat.le_of_ble_eq_true rfl⟩) hK hN hP hD hS hA rfl rfl rfl hl.1 rfl (Nat.le_of_ble_eq_true rfl) dX10_newFloor_37 ⟨Nat.le_of_ble_eq_true rfl, Nat.le_of_ble_eq_true rfl⟩ (fun r_21 u H locs hw hP hD hS => ?_)
          obtain ⟨rfl, rfl⟩ := hw
          have hP : va_P D vwCl (MW cy a (va_up J 0 m0_2) (va_up (va_up (va_up I 3 m1_2) 12 m2_2) 13 (m3_2 + 1)) (va_up (va_up (va_up R 3 m4_2) 4 m5_2) 5 m6_2) (va_up (va_up (va_up RJ 2 m7_2) 6 m8_2) 7 m9_2)) H := hP
          have hD : va_D A (MW cy a (va_up J 0 m0_2) (va_up (va_up (va_up I 3 m1_2) 12 m2_2) 13 (m3_2 + 1)) (va_up (va_up (va_up R 3 m4_2) 4 m5_2) 5 m6_2) (va_up (va_up (va_up RJ 2 m7_2) 6 m8_2) 7 m9_2)) := hD
          exact wret_i hx hb hr hlocks ((va_up J 0 m0_2), (va_up (va_up (va_up I 3 m1_2) 12 m2_2) 13 (m3_2 + 1)), (va_up (va_up (va_up R 3 m4_2) 4 m5_2) 5 m6_2), (va_up (va_up (va_up RJ 2 m7_2) 6 m8_2) 7 m9_2)) ⟨m0_2, m1_2, m2_2, (m3_2 + 1), m4_2, m5_2, m6_2, m7_2, m8_2, m9_2, ⟨(bec_tw (fl := fl) (P := P) (any_of hSe hlt hns (tw_t c_20))).1.symm, hm_m1_2, hm_m2_2, hm_m4_2, hm_m6_2, (becM_tw hRA2 (any_of hSe hlt hns (tw_t c_20)))⟩, rfl⟩ hP hD hS dX10_newFloor_40
  refine lv_iconst (v := 0) hx hb dX10_newFloor_0 (by decide) ?_
  refine lv_istore_n (lv' := [(3, .int 0), (0, .ref (a 0)), (1, .long x0)]) hx hb dX10_newFloor_1 rfl hl (by decide) rfl (fun ls hl => ?_)
  exact lp2 _ 0 (J 0) (I 3) (I 12) (I 13) (R 3) (R 4) (R 5) (RJ 2) (RJ 6) (RJ 7) (by omega) hM.2.1 hM.2.2.1 hM.2.2.2.1 hM.2.2.2.2.1 hRA (fun j h => absurd h (Nat.not_lt_zero _)) (Nat.lt_succ_self _) _ _ hP hD hS ls (lv_sub hl [1, 2, 0] rfl)
theorem dX10_row_0 : decode cX10_row 0 = .ok (.iload_n 1, 1) := by decide +kernel
theorem dX10_row_1 : decode cX10_row 1 = .ok (.iconst 0, 1) := by decide +kernel
theorem dX10_row_2 : decode cX10_row 2 = .ok (.bipush 7, 2) := by decide +kernel
set_option maxRecDepth 20000 in
theorem ggX10_row_X10_within : GoodIn wsX10_row wsX10_within := goodIn_r _ [8] rfl (by decide +kernel)
set_option maxRecDepth 20000 in
theorem gX10_row_X10_within : GoodIn wsX10_row (va_wsS RX10 70 yX10_within wsX10_within) := goodIn_app (goodIn_r _ [5, 6, 7] rfl (by decide +kernel)) ggX10_row_X10_within
theorem dX10_row_4 : decode cX10_row 4 = .ok (.invokestatic 70, 3) := by decide +kernel
theorem dX10_row_7 : decode cX10_row 7 = .ok (.ifCond .eq 14, 3) := by decide +kernel
theorem dX10_row_21 : decode cX10_row 21 = .ok (.aload_n 0, 1) := by decide +kernel
theorem dX10_row_22 : decode cX10_row 22 = .ok (.ldc 141, 2) := by decide +kernel
set_option maxRecDepth 20000 in
theorem ggX10_row_X10_finding : GoodIn wsX10_row wsX10_finding := goodIn_r _ [12, 13, 67, 68, 69, 70, 71, 72, 73, 74, 75, 76, 77, 78, 79, 80, 81, 82, 83, 84, 85, 86, 87, 88, 89, 90, 91, 92, 93, 94, 95, 96] rfl (by decide +kernel)
set_option maxRecDepth 20000 in
theorem gX10_row_X10_finding : GoodIn wsX10_row (wsV RX10 99 RX10 yX10_finding wsX10_finding) := goodIn_app (goodIn_r _ [9, 10, 11, 7] rfl (by decide +kernel)) ggX10_row_X10_finding
theorem dX10_row_24 : decode cX10_row 24 = .ok (.invokevirtual 99, 3) := by decide +kernel
theorem dX10_row_27 : decode cX10_row 27 = .ok (.ireturn, 1) := by decide +kernel
theorem dX10_row_10 : decode cX10_row 10 = .ok (.iload_n 2, 1) := by decide +kernel
theorem dX10_row_11 : decode cX10_row 11 = .ok (.iconst 0, 1) := by decide +kernel
theorem dX10_row_12 : decode cX10_row 12 = .ok (.sipush 255, 3) := by decide +kernel
theorem dX10_row_15 : decode cX10_row 15 = .ok (.invokestatic 70, 3) := by decide +kernel
theorem dX10_row_18 : decode cX10_row 18 = .ok (.ifCond .ne 10, 3) := by decide +kernel
theorem dX10_row_28 : decode cX10_row 28 = .ok (.aload_n 0, 1) := by decide +kernel
theorem dX10_row_29 : decode cX10_row 29 = .ok (.aload_n 0, 1) := by decide +kernel
theorem dX10_row_30 : decode cX10_row 30 = .ok (.getfield 81, 3) := by decide +kernel
theorem dX10_row_33 : decode cX10_row 33 = .ok (.ldc2_w 142, 3) := by decide +kernel
theorem dX10_row_36 : decode cX10_row 36 = .ok (.bipush 8, 2) := by decide +kernel
theorem dX10_row_38 : decode cX10_row 38 = .ok (.iload_n 1, 1) := by decide +kernel
theorem dX10_row_39 : decode cX10_row 39 = .ok (.imul, 1) := by decide +kernel
theorem dX10_row_40 : decode cX10_row 40 = .ok (.lshl, 1) := by decide +kernel
theorem dX10_row_41 : decode cX10_row 41 = .ok (.ldc2_w 126, 3) := by decide +kernel
theorem dX10_row_44 : decode cX10_row 44 = .ok (.lxor, 1) := by decide +kernel
theorem dX10_row_45 : decode cX10_row 45 = .ok (.land, 1) := by decide +kernel
theorem dX10_row_46 : decode cX10_row 46 = .ok (.iload_n 2, 1) := by decide +kernel
theorem dX10_row_47 : decode cX10_row 47 = .ok (.i2l, 1) := by decide +kernel
theorem dX10_row_48 : decode cX10_row 48 = .ok (.bipush 8, 2) := by decide +kernel
theorem dX10_row_50 : decode cX10_row 50 = .ok (.iload_n 1, 1) := by decide +kernel
theorem dX10_row_51 : decode cX10_row 51 = .ok (.imul, 1) := by decide +kernel
theorem dX10_row_52 : decode cX10_row 52 = .ok (.lshl, 1) := by decide +kernel
theorem dX10_row_53 : decode cX10_row 53 = .ok (.lor, 1) := by decide +kernel
set_option maxRecDepth 20000 in
theorem ggX10_row_X10_newFloor : GoodIn wsX10_row wsX10_newFloor := goodIn_r _ [17, 18, 4, 19, 20, 2, 21, 22, 23, 7, 24, 25, 26, 27, 28, 29, 30, 31, 32, 33, 9, 10, 11, 12, 13, 34, 35, 36, 37, 38, 39, 40, 41, 42, 43, 44, 45, 46, 5, 6, 8, 47, 48, 49, 50, 51, 52, 53, 54, 55, 56, 57, 58, 59, 60, 61, 62, 63, 64, 65, 66, 67, 68, 69, 70, 71, 72, 73, 74, 75, 76, 77, 78, 79, 80, 81, 82, 83, 84, 85, 86, 87, 88, 89, 90, 91, 92, 93, 94, 95, 96] rfl (by decide +kernel)
set_option maxRecDepth 20000 in
theorem gX10_row_X10_newFloor : GoodIn wsX10_row (wsV RX10 144 RX10 yX10_newFloor wsX10_newFloor) := goodIn_app (goodIn_r _ [14, 15, 16, 7] rfl (by decide +kernel)) ggX10_row_X10_newFloor
theorem dX10_row_54 : decode cX10_row 54 = .ok (.invokevirtual 144, 3) := by decide +kernel
theorem dX10_row_57 : decode cX10_row 57 = .ok (.ireturn, 1) := by decide +kernel
set_option maxRecDepth 20000 in
theorem ihX10_row_10 : ∀ w ∈ u_ws RX10 TX10 30, w ∈ wsX10_row := fun _ h => List.mem_cons_of_mem _ (List.mem_append_right _ h)
set_option maxHeartbeats 4000000 in
set_option maxRecDepth 100000 in
theorem x_X10_row (l : Launch) (D : va_G) (cy : Nat → ClassId) (a : Nat → Nat) (sz : Nat) (J : Nat → Int64) (I : Nat → Int32) (R : Nat → Nat → Int32) (RJ : Nat → Nat → Int64) (x0 : Int32) (x1 : Int32) (fl : Int64) (S : List Int32) (P : List PE) (hRA : RMf (J 0) (I 1) (I 12) (R 1) (R 3) (R 4) (RJ 2) fl S P) (hM : MI I R) : Met l yX10_row wsX10_row ({ frames := 5, cells := 0, slots := 0, locals := 115 }) (va_Pc [.ref (a 0), .int x0, .int x1] (PW D cy sz (MW cy a J I R RJ))) (va_Qi (fun r (u : MS) => ∃ (w0 : Int64), ∃ (w1 : Int32), ∃ (w2 : Int32), ∃ (w3 : Int32), ∃ (w4 : Nat → Int32), ∃ (w5 : Nat → Int32), ∃ (w6 : Nat → Int32), ∃ (w7 : Nat → Int64), ∃ (w8 : Nat → Int64), ∃ (w9 : Nat → Int64), (r = (aRowA fl S x0 x1) ∧ (isB w1) ∧ (vp_in w2 21) ∧ (∀ i, i < 20 → vp_in (w4 i) 21) ∧ (∀ i, i < 20 → isB (w6 i)) ∧ (RMf w0 (I 1) w2 (R 1) w4 w5 w7 (aRowF fl S x0 x1) S (aRowP fl S P x0 x1))) ∧ u = ((va_up J 0 w0), (va_up (va_up (va_up I 3 w1) 12 w2) 13 w3), (va_up (va_up (va_up R 3 w4) 4 w5) 5 w6), (va_up (va_up (va_up RJ 2 w7) 6 w8) 7 w9))) (BW D (va_A (MW cy a J I R RJ) sz) (MWu cy a)) (va_A (MW cy a J I R RJ) sz)) 0 0 (va_A (MW cy a J I R RJ) sz) := by
  refine Met.ofW (cc := cX10_row) (maxL := 3) (ret := (some .int)) (by decide) rfl ?_
  intro p e s m args below meth c s₁ B hml hv
  obtain ⟨rfl, rfl, hP, hK, hN, hD0⟩ := hv
  have hx := B.exec
  have hb := B.bytes
  have hr := B.returns
  have hts := atoms_spec (ws := wsX10_row) B.pre
  have hown : s.vm.findClass RX10 = some m.cls := findClass_of_methodNamed B.named
  have hlocks := B.notSynchronized
  have hw0 := hts (.constant RX10 141 (-100001)) (by decide +kernel)
  have hw1 := hts (.fieldLink RX10 81 "ParquetLayerModel" "floor" "J") (by decide +kernel)
  have hw2 := hts (.constantLong RX10 142 (255)) (by decide +kernel)
  have hw3 := hts (.constantLong RX10 126 (-1)) (by decide +kernel)
  have hi10 := ihX10_row_10
  have hD := hD0.self (sz := s.heap.size)
  generalize hAe : va_A (MW cy a J I R RJ) s.heap.size = A at hD ⊢
  have hA : ∀ q : Nat, s.heap.size ≤ q → A q := fun q h => by rw [← hAe]; exact Or.inr h
  have hS : va_S A s.heap s.heap [] := va_S.rf
  have hl := lv_entry ([.ref (a 0), .int x0, .int x1]) (n := 3) (Nat.le_of_ble_eq_true rfl)
  rw [lg_entry_eq]
  generalize (lg_sl ([.ref (a 0), .int x0, .int x1]) ++ List.replicate (3 - (lg_sl ([.ref (a 0), .int x0, .int x1])).length) Slot.unset).toArray = ls at hl ⊢
  have hl : lv_has ls 3 [(0, .ref (a 0)), (1, .int x0), (2, .int x1)] := hl
  have hP : va_P D vwCl (MW cy a (va_up J 0 (J 0)) (va_up (va_up (va_up I 3 (I 3)) 12 (I 12)) 13 (I 13)) (va_up (va_up (va_up R 3 (R 3)) 4 (R 4)) 5 (R 5)) (va_up (va_up (va_up RJ 2 (RJ 2)) 6 (RJ 6)) 7 (RJ 7))) s.heap := hP
  have hD : va_D A (MW cy a (va_up J 0 (J 0)) (va_up (va_up (va_up I 3 (I 3)) 12 (I 12)) 13 (I 13)) (va_up (va_up (va_up R 3 (R 3)) 4 (R 4)) 5 (R 5)) (va_up (va_up (va_up RJ 2 (RJ 2)) 6 (RJ 6)) 7 (RJ 7))) := hD
  refine lv_iload_n hx hb dX10_row_0 rfl (lv_at hl 1 rfl) ?_
  refine lv_iconst (v := 0) hx hb dX10_row_1 (by decide) ?_
  refine lv_bipush (v := 7) hx hb dX10_row_2 (by decide) ?_
  refine kS_i (As := [.int x0, .int 0, .int 7]) (rest := []) ⟨hx, hb, hml, hown, hts⟩ (c_X10_within l x0 0 7) (va_cwS 3 hts gX10_row_X10_within rfl rfl rfl (by decide +kernel) ⟨Nat.le_of_ble_eq_true rfl, Nat.le_of_ble_eq_true rfl⟩) rfl hl.1 rfl (Nat.le_of_ble_eq_true rfl) dX10_row_4 ⟨Nat.le_of_ble_eq_true rfl, Nat.le_of_ble_eq_true rfl⟩ ?_
  refine lv_if_eq (tgt := 21) hx hb dX10_row_7 (by decide) (fun c_1 => ?_) (fun c_1 => ?_)
  · replace c_1 := bI_f c_1
    refine lv_aload_n hx hb dX10_row_21 rfl (lv_at hl 0 rfl) ?_
    refine lv_ldc (v := (-100001)) hx hb hown hw0 dX10_row_22 ?_
    refine kM_i (As := [.int (-100001)]) (rest := []) (q0 := 0) ⟨hx, hb, hml, hown, hts⟩ (c_X10_finding l D cy a _ (va_up J 0 (J 0)) (va_up (va_up (va_up I 3 (I 3)) 12 (I 12)) 13 (I 13)) (va_up (va_up (va_up R 3 (R 3)) 4 (R 4)) 5 (R 5)) (va_up (va_up (va_up RJ 2 (RJ 2)) 6 (RJ 6)) 7 (RJ 7)) (-100001) ) (cwV 1 hts gX10_row_X10_finding rfl rfl rfl (by decide +kernel) ⟨Nat.le_of_ble_eq_true rfl, Nat.le_of_ble_eq_true rfl⟩) hK hN hP hD hS hA rfl rfl rfl hl.1 rfl (Nat.le_of_ble_eq_true rfl) dX10_row_24 ⟨Nat.le_of_ble_eq_true rfl, Nat.le_of_ble_eq_true rfl⟩ (fun r_2 u H locs hw hP hD hS => ?_)
    obtain ⟨rfl, rfl⟩ := hw
    have hP : va_P D vwCl (MW cy a (va_up J 0 (J 0)) (va_up (va_up (va_up I 3 (I 3)) 12 (I 12)) 13 ((I 13) + 1)) (va_up (va_up (va_up R 3 (R 3)) 4 (R 4)) 5 (R 5)) (va_up (va_up (va_up RJ 2 (RJ 2)) 6 (RJ 6)) 7 (RJ 7))) H := hP
    have hD : va_D A (MW cy a (va_up J 0 (J 0)) (va_up (va_up (va_up I 3 (I 3)) 12 (I 12)) 13 ((I 13) + 1)) (va_up (va_up (va_up R 3 (R 3)) 4 (R 4)) 5 (R 5)) (va_up (va_up (va_up RJ 2 (RJ 2)) 6 (RJ 6)) 7 (RJ 7))) := hD
    exact wret_i hx hb hr hlocks ((va_up J 0 (J 0)), (va_up (va_up (va_up I 3 (I 3)) 12 (I 12)) 13 ((I 13) + 1)), (va_up (va_up (va_up R 3 (R 3)) 4 (R 4)) 5 (R 5)), (va_up (va_up (va_up RJ 2 (RJ 2)) 6 (RJ 6)) 7 (RJ 7))) ⟨(J 0), (I 3), (I 12), ((I 13) + 1), (R 3), (R 4), (R 5), (RJ 2), (RJ 6), (RJ 7), ⟨(row_out (S := S) (P := P) (fl := fl) (by simp [rOk, c_1])).1, hM.2.1, hM.2.2.1, hM.2.2.2.1, hM.2.2.2.2.1, (rowM_out (by simp [rOk, c_1]) hRA)⟩, rfl⟩ hP hD hS dX10_row_27
  · replace c_1 := bI_t c_1
    refine lv_iload_n hx hb dX10_row_10 rfl (lv_at hl 2 rfl) ?_
    refine lv_iconst (v := 0) hx hb dX10_row_11 (by decide) ?_
    refine lv_sipush (v := 255) hx hb dX10_row_12 (by decide) ?_
    refine kS_i (As := [.int x1, .int 0, .int 255]) (rest := []) ⟨hx, hb, hml, hown, hts⟩ (c_X10_within l x1 0 255) (va_cwS 3 hts gX10_row_X10_within rfl rfl rfl (by decide +kernel) ⟨Nat.le_of_ble_eq_true rfl, Nat.le_of_ble_eq_true rfl⟩) rfl hl.1 rfl (Nat.le_of_ble_eq_true rfl) dX10_row_15 ⟨Nat.le_of_ble_eq_true rfl, Nat.le_of_ble_eq_true rfl⟩ ?_
    refine lv_if_ne (tgt := 28) hx hb dX10_row_18 (by decide) (fun c_3 => ?_) (fun c_3 => ?_)
    · replace c_3 := bI_t c_3
      refine lv_aload_n hx hb dX10_row_28 rfl (lv_at hl 0 rfl) ?_
      refine lv_aload_n hx hb dX10_row_29 rfl (lv_at hl 0 rfl) ?_
      refine va_get (D := D) (ci := 9) (v := .long (J 0)) (C := RX10) (T := TX10) (N := 30) hx hb hts hi10 hown hK hP 0 rfl rfl 0 (by decide) hw1 (fun _ h9 => h9) rfl dX10_row_30 ?_
      refine lv_ldc2 (v := 255) hx hb hown hw2 dX10_row_33 ?_
      refine lv_bipush (v := 8) hx hb dX10_row_36 (by decide) ?_
      refine lv_iload_n hx hb dX10_row_38 rfl (lv_at hl 1 rfl) ?_
      refine lv_imul hx hb dX10_row_39 ?_
      refine lv_lshl (v := (255 : Int64) <<< ((8 * x0 : Int32).toInt64 &&& 63)) hx hb dX10_row_40 rfl ?_
      refine lv_ldc2 (v := (-1)) hx hb hown hw3 dX10_row_41 ?_
      refine lv_lxor hx hb dX10_row_44 ?_
      refine lv_land hx hb dX10_row_45 ?_
      refine lv_iload_n hx hb dX10_row_46 rfl (lv_at hl 2 rfl) ?_
      refine lv_i2l (v := (x1 : Int32).toInt64) hx hb dX10_row_47 rfl ?_
      refine lv_bipush (v := 8) hx hb dX10_row_48 (by decide) ?_
      refine lv_iload_n hx hb dX10_row_50 rfl (lv_at hl 1 rfl) ?_
      refine lv_imul hx hb dX10_row_51 ?_
      refine lv_lshl (v := ((x1 : Int32).toInt64) <<< ((8 * x0 : Int32).toInt64 &&& 63)) hx hb dX10_row_52 rfl ?_
      refine lv_lor hx hb dX10_row_53 ?_
      refine kM_i (As := [.long (((J 0) &&& (((255 : Int64) <<< ((8 * x0 : Int32).toInt64 &&& 63)) ^^^ (-1))) ||| (((x1 : Int32).toInt64) <<< ((8 * x0 : Int32).toInt64 &&& 63)))]) (rest := []) (q0 := 0) ⟨hx, hb, hml, hown, hts⟩ (x_X10_newFloor l D cy a _ (va_up J 0 (J 0)) (va_up (va_up (va_up I 3 (I 3)) 12 (I 12)) 13 (I 13)) (va_up (va_up (va_up R 3 (R 3)) 4 (R 4)) 5 (R 5)) (va_up (va_up (va_up RJ 2 (RJ 2)) 6 (RJ 6)) 7 (RJ 7)) (((J 0) &&& (((255 : Int64) <<< ((8 * x0 : Int32).toInt64 &&& 63)) ^^^ (-1))) ||| (((x1 : Int32).toInt64) <<< ((8 * x0 : Int32).toInt64 &&& 63))) fl S P hRA ⟨hM.1, hM.2.1, hM.2.2.1, hM.2.2.2.1, hM.2.2.2.2.1, hM.2.2.2.2.2⟩) (cwV 1 hts gX10_row_X10_newFloor rfl rfl rfl (by decide +kernel) ⟨Nat.le_of_ble_eq_true rfl, Nat.le_of_ble_eq_true rfl⟩) hK hN hP hD hS hA rfl rfl rfl hl.1 rfl (Nat.le_of_ble_eq_true rfl) dX10_row_54 ⟨Nat.le_of_ble_eq_true rfl, Nat.le_of_ble_eq_true rfl⟩ (fun r_4 u H locs hw hP hD hS => ?_)
      obtain ⟨w_5, w_6, w_7, w_8, w_9, w_10, w_11, w_12, w_13, w_14, ⟨rfl, hi_15, hi_16, hi_17, hi_18, hp_19⟩, rfl⟩ := hw
      have hP : va_P D vwCl (MW cy a (va_up J 0 w_5) (va_up (va_up (va_up I 3 w_6) 12 w_7) 13 w_8) (va_up (va_up (va_up R 3 w_9) 4 w_10) 5 w_11) (va_up (va_up (va_up RJ 2 w_12) 6 w_13) 7 w_14)) H := hP
      have hD : va_D A (MW cy a (va_up J 0 w_5) (va_up (va_up (va_up I 3 w_6) 12 w_7) 13 w_8) (va_up (va_up (va_up R 3 w_9) 4 w_10) 5 w_11) (va_up (va_up (va_up RJ 2 w_12) 6 w_13) 7 w_14)) := hD
      exact wret_i hx hb hr hlocks ((va_up J 0 w_5), (va_up (va_up (va_up I 3 w_6) 12 w_7) 13 w_8), (va_up (va_up (va_up R 3 w_9) 4 w_10) 5 w_11), (va_up (va_up (va_up RJ 2 w_12) 6 w_13) 7 w_14)) ⟨w_5, w_6, w_7, w_8, w_9, w_10, w_11, w_12, w_13, w_14, ⟨(row_in (S := S) (P := P) c_1 c_3 (by rw [← hRA.1]; rfl)).1, hi_15, hi_16, hi_17, hi_18, (rowM_in c_1 c_3 (by rw [← hRA.1]; rfl) hp_19)⟩, rfl⟩ hP hD hS dX10_row_57
    · replace c_3 := bI_f c_3
      refine lv_aload_n hx hb dX10_row_21 rfl (lv_at hl 0 rfl) ?_
      refine lv_ldc (v := (-100001)) hx hb hown hw0 dX10_row_22 ?_
      refine kM_i (As := [.int (-100001)]) (rest := []) (q0 := 0) ⟨hx, hb, hml, hown, hts⟩ (c_X10_finding l D cy a _ (va_up J 0 (J 0)) (va_up (va_up (va_up I 3 (I 3)) 12 (I 12)) 13 (I 13)) (va_up (va_up (va_up R 3 (R 3)) 4 (R 4)) 5 (R 5)) (va_up (va_up (va_up RJ 2 (RJ 2)) 6 (RJ 6)) 7 (RJ 7)) (-100001) ) (cwV 1 hts gX10_row_X10_finding rfl rfl rfl (by decide +kernel) ⟨Nat.le_of_ble_eq_true rfl, Nat.le_of_ble_eq_true rfl⟩) hK hN hP hD hS hA rfl rfl rfl hl.1 rfl (Nat.le_of_ble_eq_true rfl) dX10_row_24 ⟨Nat.le_of_ble_eq_true rfl, Nat.le_of_ble_eq_true rfl⟩ (fun r_20 u H locs hw hP hD hS => ?_)
      obtain ⟨rfl, rfl⟩ := hw
      have hP : va_P D vwCl (MW cy a (va_up J 0 (J 0)) (va_up (va_up (va_up I 3 (I 3)) 12 (I 12)) 13 ((I 13) + 1)) (va_up (va_up (va_up R 3 (R 3)) 4 (R 4)) 5 (R 5)) (va_up (va_up (va_up RJ 2 (RJ 2)) 6 (RJ 6)) 7 (RJ 7))) H := hP
      have hD : va_D A (MW cy a (va_up J 0 (J 0)) (va_up (va_up (va_up I 3 (I 3)) 12 (I 12)) 13 ((I 13) + 1)) (va_up (va_up (va_up R 3 (R 3)) 4 (R 4)) 5 (R 5)) (va_up (va_up (va_up RJ 2 (RJ 2)) 6 (RJ 6)) 7 (RJ 7))) := hD
      exact wret_i hx hb hr hlocks ((va_up J 0 (J 0)), (va_up (va_up (va_up I 3 (I 3)) 12 (I 12)) 13 ((I 13) + 1)), (va_up (va_up (va_up R 3 (R 3)) 4 (R 4)) 5 (R 5)), (va_up (va_up (va_up RJ 2 (RJ 2)) 6 (RJ 6)) 7 (RJ 7))) ⟨(J 0), (I 3), (I 12), ((I 13) + 1), (R 3), (R 4), (R 5), (RJ 2), (RJ 6), (RJ 7), ⟨(row_out (S := S) (P := P) (fl := fl) (by simp [rOk, c_1, c_3])).1, hM.2.1, hM.2.2.1, hM.2.2.2.1, hM.2.2.2.2.1, (rowM_out (by simp [rOk, c_1, c_3]) hRA)⟩, rfl⟩ hP hD hS dX10_row_27
theorem dX10_has_0 : decode cX10_has 0 = .ok (.iload_n 1, 1) := by decide +kernel
set_option maxRecDepth 20000 in
theorem ggX10_has_X10_isField : GoodIn wsX10_has wsX10_isField := goodIn_r _ [6, 7, 8, 5, 9] rfl (by decide +kernel)
set_option maxRecDepth 20000 in
theorem gX10_has_X10_isField : GoodIn wsX10_has (va_wsS RX10 147 yX10_isField wsX10_isField) := goodIn_app (goodIn_r _ [3, 4, 5] rfl (by decide +kernel)) ggX10_has_X10_isField
theorem dX10_has_1 : decode cX10_has 1 = .ok (.invokestatic 147, 3) := by decide +kernel
theorem dX10_has_4 : decode cX10_has 4 = .ok (.ifCond .ne 12, 3) := by decide +kernel
theorem dX10_has_16 : decode cX10_has 16 = .ok (.aload_n 0, 1) := by decide +kernel
theorem dX10_has_17 : decode cX10_has 17 = .ok (.getfield 81, 3) := by decide +kernel
theorem dX10_has_20 : decode cX10_has 20 = .ok (.iload_n 1, 1) := by decide +kernel
set_option maxRecDepth 20000 in
theorem ggX10_has_X10_hasBit : GoodIn wsX10_has wsX10_hasBit := goodIn_r _ [17] rfl (by decide +kernel)
set_option maxRecDepth 20000 in
theorem gX10_has_X10_hasBit : GoodIn wsX10_has (va_wsS RX10 74 yX10_hasBit wsX10_hasBit) := goodIn_app (goodIn_r _ [15, 16, 5] rfl (by decide +kernel)) ggX10_has_X10_hasBit
theorem dX10_has_21 : decode cX10_has 21 = .ok (.invokestatic 74, 3) := by decide +kernel
theorem dX10_has_24 : decode cX10_has 24 = .ok (.ifCond .eq 7, 3) := by decide +kernel
theorem dX10_has_31 : decode cX10_has 31 = .ok (.iconst 0, 1) := by decide +kernel
theorem dX10_has_32 : decode cX10_has 32 = .ok (.ireturn, 1) := by decide +kernel
theorem dX10_has_27 : decode cX10_has 27 = .ok (.iconst 1, 1) := by decide +kernel
theorem dX10_has_28 : decode cX10_has 28 = .ok (.goto 4, 3) := by decide +kernel
theorem dX10_has_7 : decode cX10_has 7 = .ok (.aload_n 0, 1) := by decide +kernel
theorem dX10_has_8 : decode cX10_has 8 = .ok (.ldc 141, 2) := by decide +kernel
set_option maxRecDepth 20000 in
theorem ggX10_has_X10_finding : GoodIn wsX10_has wsX10_finding := goodIn_r _ [13, 14, 18, 19, 20, 21, 22, 23, 24, 25, 26, 27, 28, 29, 30, 31, 32, 33, 34, 35, 36, 37, 38, 39, 40, 41, 42, 43, 44, 45, 46, 47] rfl (by decide +kernel)
set_option maxRecDepth 20000 in
theorem gX10_has_X10_finding : GoodIn wsX10_has (wsV RX10 99 RX10 yX10_finding wsX10_finding) := goodIn_app (goodIn_r _ [10, 11, 12, 5] rfl (by decide +kernel)) ggX10_has_X10_finding
theorem dX10_has_10 : decode cX10_has 10 = .ok (.invokevirtual 99, 3) := by decide +kernel
theorem dX10_has_13 : decode cX10_has 13 = .ok (.goto 19, 3) := by decide +kernel
set_option maxRecDepth 20000 in
theorem ihX10_has_10 : ∀ w ∈ u_ws RX10 TX10 30, w ∈ wsX10_has := fun _ h => List.mem_cons_of_mem _ (List.mem_append_right _ h)
set_option maxHeartbeats 4000000 in
set_option maxRecDepth 100000 in
theorem x_X10_has (l : Launch) (D : va_G) (cy : Nat → ClassId) (a : Nat → Nat) (sz : Nat) (J : Nat → Int64) (I : Nat → Int32) (R : Nat → Nat → Int32) (RJ : Nat → Nat → Int64) (x0 : Int32) (fl : Int64) (S : List Int32) (P : List PE) (hRA : RMf (J 0) (I 1) (I 12) (R 1) (R 3) (R 4) (RJ 2) fl S P) (hM : MI I R) : Met l yX10_has wsX10_has ({ frames := 2, cells := 0, slots := 0, locals := 42 }) (va_Pc [.ref (a 0), .int x0] (PW D cy sz (MW cy a J I R RJ))) (va_Qi (fun r (u : MS) => ∃ (w0 : Int32), (r = (aHas fl x0) ∧ (RMf (J 0) (I 1) (I 12) (R 1) (R 3) (R 4) (RJ 2) fl S P)) ∧ u = (J, (va_up I 13 w0), R, RJ)) (BW D (va_A (MW cy a J I R RJ) sz) (MWu cy a)) (va_A (MW cy a J I R RJ) sz)) 0 0 (va_A (MW cy a J I R RJ) sz) := by
  refine Met.ofW (cc := cX10_has) (maxL := 2) (ret := (some .int)) (by decide) rfl ?_
  intro p e s m args below meth c s₁ B hml hv
  obtain ⟨rfl, rfl, hP, hK, hN, hD0⟩ := hv
  have hx := B.exec
  have hb := B.bytes
  have hr := B.returns
  have hts := atoms_spec (ws := wsX10_has) B.pre
  have hown : s.vm.findClass RX10 = some m.cls := findClass_of_methodNamed B.named
  have hlocks := B.notSynchronized
  have hw0 := hts (.fieldLink RX10 81 "ParquetLayerModel" "floor" "J") (by decide +kernel)
  have hw1 := hts (.constant RX10 141 (-100001)) (by decide +kernel)
  have hi10 := ihX10_has_10
  have hD := hD0.self (sz := s.heap.size)
  generalize hAe : va_A (MW cy a J I R RJ) s.heap.size = A at hD ⊢
  have hA : ∀ q : Nat, s.heap.size ≤ q → A q := fun q h => by rw [← hAe]; exact Or.inr h
  have hS : va_S A s.heap s.heap [] := va_S.rf
  have hl := lv_entry ([.ref (a 0), .int x0]) (n := 2) (Nat.le_of_ble_eq_true rfl)
  rw [lg_entry_eq]
  generalize (lg_sl ([.ref (a 0), .int x0]) ++ List.replicate (2 - (lg_sl ([.ref (a 0), .int x0])).length) Slot.unset).toArray = ls at hl ⊢
  have hl : lv_has ls 2 [(0, .ref (a 0)), (1, .int x0)] := hl
  have hP : va_P D vwCl (MW cy a J (va_up I 13 (I 13)) R RJ) s.heap := hP
  have hD : va_D A (MW cy a J (va_up I 13 (I 13)) R RJ) := hD
  refine lv_iload_n hx hb dX10_has_0 rfl (lv_at hl 1 rfl) ?_
  refine kS_i (As := [.int x0]) (rest := []) ⟨hx, hb, hml, hown, hts⟩ (c_X10_isField l x0) (va_cwS 1 hts gX10_has_X10_isField rfl rfl rfl (by decide +kernel) ⟨Nat.le_of_ble_eq_true rfl, Nat.le_of_ble_eq_true rfl⟩) rfl hl.1 rfl (Nat.le_of_ble_eq_true rfl) dX10_has_1 ⟨Nat.le_of_ble_eq_true rfl, Nat.le_of_ble_eq_true rfl⟩ ?_
  refine lv_if_ne (tgt := 16) hx hb dX10_has_4 (by decide) (fun c_1 => ?_) (fun c_1 => ?_)
  · replace c_1 := bI_t c_1
    refine lv_aload_n hx hb dX10_has_16 rfl (lv_at hl 0 rfl) ?_
    refine va_get (D := D) (ci := 9) (v := .long (J 0)) (C := RX10) (T := TX10) (N := 30) hx hb hts hi10 hown hK hP 0 rfl rfl 0 (by decide) hw0 (fun _ h9 => h9) rfl dX10_has_17 ?_
    refine lv_iload_n hx hb dX10_has_20 rfl (lv_at hl 1 rfl) ?_
    refine kS_i (As := [.long (J 0), .int x0]) (rest := []) ⟨hx, hb, hml, hown, hts⟩ (c_X10_hasBit l (J 0) x0) (va_cwS 2 hts gX10_has_X10_hasBit rfl rfl rfl (by decide +kernel) ⟨Nat.le_of_ble_eq_true rfl, Nat.le_of_ble_eq_true rfl⟩) rfl hl.1 rfl (Nat.le_of_ble_eq_true rfl) dX10_has_21 ⟨Nat.le_of_ble_eq_true rfl, Nat.le_of_ble_eq_true rfl⟩ ?_
    refine lv_if_eq (tgt := 31) hx hb dX10_has_24 (by decide) (fun c_2 => ?_) (fun c_2 => ?_)
    · replace c_2 := bI_f c_2
      refine lv_iconst (v := 0) hx hb dX10_has_31 (by decide) ?_
      exact wret_i hx hb hr hlocks (J, (va_up I 13 (I 13)), R, RJ) ⟨(I 13), ⟨(by rw [← hRA.1]; simp_all [aHas, bI]), hRA⟩, rfl⟩ hP hD hS dX10_has_32
    · replace c_2 := bI_t c_2
      refine lv_iconst (v := 1) hx hb dX10_has_27 (by decide) ?_
      refine lv_goto (tgt := 32) hx hb dX10_has_28 (by decide) ?_
      exact wret_i hx hb hr hlocks (J, (va_up I 13 (I 13)), R, RJ) ⟨(I 13), ⟨(by rw [← hRA.1]; simp_all [aHas, bI]), hRA⟩, rfl⟩ hP hD hS dX10_has_32
  · replace c_1 := bI_f c_1
    refine lv_aload_n hx hb dX10_has_7 rfl (lv_at hl 0 rfl) ?_
    refine lv_ldc (v := (-100001)) hx hb hown hw1 dX10_has_8 ?_
    refine kM_i (As := [.int (-100001)]) (rest := []) (q0 := 0) ⟨hx, hb, hml, hown, hts⟩ (c_X10_finding l D cy a _ J (va_up I 13 (I 13)) R RJ (-100001) ) (cwV 1 hts gX10_has_X10_finding rfl rfl rfl (by decide +kernel) ⟨Nat.le_of_ble_eq_true rfl, Nat.le_of_ble_eq_true rfl⟩) hK hN hP hD hS hA rfl rfl rfl hl.1 rfl (Nat.le_of_ble_eq_true rfl) dX10_has_10 ⟨Nat.le_of_ble_eq_true rfl, Nat.le_of_ble_eq_true rfl⟩ (fun r_3 u H locs hw hP hD hS => ?_)
    obtain ⟨rfl, rfl⟩ := hw
    have hP : va_P D vwCl (MW cy a J (va_up I 13 ((I 13) + 1)) R RJ) H := hP
    have hD : va_D A (MW cy a J (va_up I 13 ((I 13) + 1)) R RJ) := hD
    refine lv_goto (tgt := 32) hx hb dX10_has_13 (by decide) ?_
    exact wret_i hx hb hr hlocks (J, (va_up I 13 ((I 13) + 1)), R, RJ) ⟨((I 13) + 1), ⟨(by rw [← hRA.1]; simp_all [aHas, bI]), hRA⟩, rfl⟩ hP hD hS dX10_has_32
