theorem dX10_countAll_0 : decode cX10_countAll 0 = .ok (.aload_n 0, 1) := by decide +kernel
set_option maxRecDepth 20000 in
theorem ggX10_countAll_X10_findGlued : GoodIn wsX10_countAll wsX10_findGlued := goodIn_r _ [5, 6, 7, 8, 9, 10, 11, 12, 4, 13, 14, 15, 16, 17, 18, 19, 20, 21, 22, 23, 24, 25, 26, 27, 28, 29, 30, 31, 32, 33, 34, 53, 54, 55, 56, 57, 58, 59, 60, 61, 62, 63, 64, 65, 66, 67, 68, 69, 70, 71, 72, 73, 74, 75, 76, 77, 78, 79, 80, 81, 82] rfl (by decide +kernel)
set_option maxRecDepth 20000 in
theorem gX10_countAll_X10_findGlued : GoodIn wsX10_countAll (wsV RX10 201 RX10 yX10_findGlued wsX10_findGlued) := goodIn_app (goodIn_r _ [1, 2, 3, 4] rfl (by decide +kernel)) ggX10_countAll_X10_findGlued
theorem dX10_countAll_1 : decode cX10_countAll 1 = .ok (.invokevirtual 201, 3) := by decide +kernel
theorem dX10_countAll_4 : decode cX10_countAll 4 = .ok (.aload_n 0, 1) := by decide +kernel
set_option maxRecDepth 20000 in
theorem ggX10_countAll_X10_findWays : GoodIn wsX10_countAll wsX10_findWays := goodIn_r _ [38, 39, 40, 41, 42, 4, 43, 44, 45, 46, 47, 48, 8, 7, 6, 31, 32, 33, 34, 49, 50, 51, 52, 53, 54, 55, 56, 57, 58, 59, 60, 61, 62, 63, 64, 65, 66, 67, 68, 69, 70, 71, 72, 73, 74, 75, 76, 77, 78, 79, 80, 81, 82] rfl (by decide +kernel)
set_option maxRecDepth 20000 in
theorem gX10_countAll_X10_findWays : GoodIn wsX10_countAll (wsV RX10 204 RX10 yX10_findWays wsX10_findWays) := goodIn_app (goodIn_r _ [35, 36, 37, 4] rfl (by decide +kernel)) ggX10_countAll_X10_findWays
theorem dX10_countAll_5 : decode cX10_countAll 5 = .ok (.invokevirtual 204, 3) := by decide +kernel
theorem dX10_countAll_8 : decode cX10_countAll 8 = .ok (.aload_n 0, 1) := by decide +kernel
theorem dX10_countAll_9 : decode cX10_countAll 9 = .ok (.iconst 0, 1) := by decide +kernel
theorem dX10_countAll_10 : decode cX10_countAll 10 = .ok (.iconst 0, 1) := by decide +kernel
set_option maxRecDepth 20000 in
theorem ggX10_countAll_X10_waysAt : GoodIn wsX10_countAll wsX10_waysAt := goodIn_r _ [52, 39, 53, 54, 55, 56, 57, 58, 59, 60, 61, 62, 63, 64, 65, 66, 67, 68, 69, 70, 71, 72, 73, 74, 75, 76, 77, 78, 79, 80, 81, 82] rfl (by decide +kernel)
set_option maxRecDepth 20000 in
theorem gX10_countAll_X10_waysAt : GoodIn wsX10_countAll (wsV RX10 197 RX10 yX10_waysAt wsX10_waysAt) := goodIn_app (goodIn_r _ [49, 50, 51, 4] rfl (by decide +kernel)) ggX10_countAll_X10_waysAt
theorem dX10_countAll_11 : decode cX10_countAll 11 = .ok (.invokevirtual 197, 3) := by decide +kernel
theorem dX10_countAll_14 : decode cX10_countAll 14 = .ok (.ireturn, 1) := by decide +kernel
set_option maxHeartbeats 4000000 in
set_option maxRecDepth 100000 in
theorem t_X10_countAll (l : Launch) (D : va_G) (cy : Nat → ClassId) (a : Nat → Nat) (sz : Nat) (J : Nat → Int64) (I : Nat → Int32) (R : Nat → Nat → Int32) (RJ : Nat → Nat → Int64)  (hM : MI I R) : Met l yX10_countAll wsX10_countAll ({ frames := 3, cells := 0, slots := 0, locals := 73 }) (va_Pc [.ref (a 0)] (PW D cy sz (MW cy a J I R RJ))) (va_Qi (fun r (u : MS) => ∃ (w0 : Int64), ∃ (w1 : Int64), ∃ (w2 : Int64), ∃ (w3 : Nat → Int32), ((cOk r) ∧ (wB w3 (64 - 64))) ∧ u = ((va_up (va_up (va_up J 19 w0) 20 w1) 21 w2), I, (va_up R 12 w3), RJ)) (BW D (va_A (MW cy a J I R RJ) sz) (MWu cy a)) (va_A (MW cy a J I R RJ) sz)) 0 0 (va_A (MW cy a J I R RJ) sz) := by
  refine Met.ofW (cc := cX10_countAll) (maxL := 1) (ret := (some .int)) (by decide) rfl ?_
  intro p e s m args below meth c s₁ B hml hv
  obtain ⟨rfl, rfl, hP, hK, hN, hD0⟩ := hv
  have hx := B.exec
  have hb := B.bytes
  have hr := B.returns
  have hts := atoms_spec (ws := wsX10_countAll) B.pre
  have hown : s.vm.findClass RX10 = some m.cls := findClass_of_methodNamed B.named
  have hlocks := B.notSynchronized
  have hD := hD0.self (sz := s.heap.size)
  generalize hAe : va_A (MW cy a J I R RJ) s.heap.size = A at hD ⊢
  have hA : ∀ q : Nat, s.heap.size ≤ q → A q := fun q h => by rw [← hAe]; exact Or.inr h
  have hS : va_S A s.heap s.heap [] := va_S.rf
  have hl := lv_entry ([.ref (a 0)]) (n := 1) (Nat.le_of_ble_eq_true rfl)
  rw [lg_entry_eq]
  generalize (lg_sl ([.ref (a 0)]) ++ List.replicate (1 - (lg_sl ([.ref (a 0)])).length) Slot.unset).toArray = ls at hl ⊢
  have hl : lv_has ls 1 [(0, .ref (a 0))] := hl
  have hP : va_P D vwCl (MW cy a (va_up (va_up (va_up J 19 (J 19)) 20 (J 20)) 21 (J 21)) I (va_up R 12 (R 12)) RJ) s.heap := hP
  have hD : va_D A (MW cy a (va_up (va_up (va_up J 19 (J 19)) 20 (J 20)) 21 (J 21)) I (va_up R 12 (R 12)) RJ) := hD
  refine lv_aload_n hx hb dX10_countAll_0 rfl (lv_at hl 0 rfl) ?_
  refine kM_v (As := []) (rest := []) (q0 := 0) ⟨hx, hb, hml, hown, hts⟩ (t_X10_findGlued l D cy a _ (va_up (va_up (va_up J 19 (J 19)) 20 (J 20)) 21 (J 21)) I (va_up R 12 (R 12)) RJ   ⟨hM.1, hM.2.1, hM.2.2.1, hM.2.2.2.1, hM.2.2.2.2.1, hM.2.2.2.2.2⟩) (cwV 0 hts gX10_countAll_X10_findGlued rfl rfl rfl (by decide +kernel) ⟨Nat.le_of_ble_eq_true rfl, Nat.le_of_ble_eq_true rfl⟩) hK hN hP hD hS hA rfl rfl rfl hl.1 rfl (Nat.le_of_ble_eq_true rfl) dX10_countAll_1 ⟨Nat.le_of_ble_eq_true rfl, Nat.le_of_ble_eq_true rfl⟩ (fun u H locs hw hP hD hS => ?_)
  obtain ⟨w_2, w_3, w_4, -, rfl⟩ := hw
  have hP : va_P D vwCl (MW cy a (va_up (va_up (va_up J 19 w_2) 20 w_3) 21 w_4) I (va_up R 12 (R 12)) RJ) H := hP
  have hD : va_D A (MW cy a (va_up (va_up (va_up J 19 w_2) 20 w_3) 21 w_4) I (va_up R 12 (R 12)) RJ) := hD
  refine lv_aload_n hx hb dX10_countAll_4 rfl (lv_at hl 0 rfl) ?_
  refine kM_v (As := []) (rest := []) (q0 := 0) ⟨hx, hb, hml, hown, hts⟩ (t_X10_findWays l D cy a _ (va_up (va_up (va_up J 19 w_2) 20 w_3) 21 w_4) I (va_up R 12 (R 12)) RJ   ) (cwV 0 hts gX10_countAll_X10_findWays rfl rfl rfl (by decide +kernel) ⟨Nat.le_of_ble_eq_true rfl, Nat.le_of_ble_eq_true rfl⟩) hK hN hP hD hS hA rfl rfl rfl hl.1 rfl (Nat.le_of_ble_eq_true rfl) dX10_countAll_5 ⟨Nat.le_of_ble_eq_true rfl, Nat.le_of_ble_eq_true rfl⟩ (fun u H locs hw hP hD hS => ?_)
  obtain ⟨w_6, hp_7, rfl⟩ := hw
  have hP : va_P D vwCl (MW cy a (va_up (va_up (va_up J 19 w_2) 20 w_3) 21 w_4) I (va_up R 12 w_6) RJ) H := hP
  have hD : va_D A (MW cy a (va_up (va_up (va_up J 19 w_2) 20 w_3) 21 w_4) I (va_up R 12 w_6) RJ) := hD
  refine lv_aload_n hx hb dX10_countAll_8 rfl (lv_at hl 0 rfl) ?_
  refine lv_iconst (v := 0) hx hb dX10_countAll_9 (by decide) ?_
  refine lv_iconst (v := 0) hx hb dX10_countAll_10 (by decide) ?_
  refine kR_i (As := [.int 0, .int 0]) (rest := []) (q0 := 0) ⟨hx, hb, hml, hown, hts⟩ (c_X10_waysAt l D cy a _ (va_up (va_up (va_up J 19 w_2) 20 w_3) 21 w_4) I (va_up R 12 w_6) RJ 0 0 (by unfold vp_in; decide)) (cwV 2 hts gX10_countAll_X10_waysAt rfl rfl rfl (by decide +kernel) ⟨Nat.le_of_ble_eq_true rfl, Nat.le_of_ble_eq_true rfl⟩) hK hN hP hD rfl rfl rfl hl.1 rfl (Nat.le_of_ble_eq_true rfl) dX10_countAll_11 ⟨Nat.le_of_ble_eq_true rfl, Nat.le_of_ble_eq_true rfl⟩ ?_
  exact wret_i hx hb hr hlocks ((va_up (va_up (va_up J 19 w_2) 20 w_3) 21 w_4), I, (va_up R 12 w_6), RJ) ⟨w_2, w_3, w_4, w_6, ⟨(wB_cOk hp_7), hp_7⟩, rfl⟩ hP hD hS dX10_countAll_14
theorem dX10_count_0 : decode cX10_count 0 = .ok (.aload_n 0, 1) := by decide +kernel
set_option maxRecDepth 20000 in
theorem ggX10_count_X10_countAll : GoodIn wsX10_count wsX10_countAll := goodIn_r _ [5, 6, 7, 8, 4, 9, 10, 11, 12, 13, 14, 15, 16, 17, 18, 19, 20, 21, 22, 23, 24, 25, 26, 27, 28, 29, 30, 31, 32, 33, 34, 35, 36, 37, 38, 39, 40, 41, 42, 43, 44, 45, 46, 47, 48, 49, 50, 51, 52, 53, 54, 55, 56, 57, 58, 59, 60, 61, 62, 63, 64, 65, 66, 67, 68, 69, 70, 71, 72, 73, 74, 75, 76, 77, 78, 79, 80, 81, 82, 83, 84, 85, 86] rfl (by decide +kernel)
set_option maxRecDepth 20000 in
theorem gX10_count_X10_countAll : GoodIn wsX10_count (wsV RX10 207 RX10 yX10_countAll wsX10_countAll) := goodIn_app (goodIn_r _ [1, 2, 3, 4] rfl (by decide +kernel)) ggX10_count_X10_countAll
theorem dX10_count_1 : decode cX10_count 1 = .ok (.invokevirtual 207, 3) := by decide +kernel
theorem dX10_count_4 : decode cX10_count 4 = .ok (.ireturn, 1) := by decide +kernel
set_option maxHeartbeats 4000000 in
set_option maxRecDepth 100000 in
theorem t_X10_count (l : Launch) (D : va_G) (cy : Nat → ClassId) (a : Nat → Nat) (sz : Nat) (J : Nat → Int64) (I : Nat → Int32) (R : Nat → Nat → Int32) (RJ : Nat → Nat → Int64)  (hM : MI I R) : Met l yX10_count wsX10_count ({ frames := 4, cells := 0, slots := 0, locals := 93 }) (va_Pc [.ref (a 0)] (PW D cy sz (MW cy a J I R RJ))) (va_Qi (fun r (u : MS) => ∃ (w0 : Int64), ∃ (w1 : Int64), ∃ (w2 : Int64), ∃ (w3 : Nat → Int32), (True) ∧ u = ((va_up (va_up (va_up J 19 w0) 20 w1) 21 w2), I, (va_up R 12 w3), RJ)) (BW D (va_A (MW cy a J I R RJ) sz) (MWu cy a)) (va_A (MW cy a J I R RJ) sz)) 0 0 (va_A (MW cy a J I R RJ) sz) := by
  refine Met.ofW (cc := cX10_count) (maxL := 1) (ret := (some .int)) (by decide) rfl ?_
  intro p e s m args below meth c s₁ B hml hv
  obtain ⟨rfl, rfl, hP, hK, hN, hD0⟩ := hv
  have hx := B.exec
  have hb := B.bytes
  have hr := B.returns
  have hts := atoms_spec (ws := wsX10_count) B.pre
  have hown : s.vm.findClass RX10 = some m.cls := findClass_of_methodNamed B.named
  have hlocks := B.notSynchronized
  have hD := hD0.self (sz := s.heap.size)
  generalize hAe : va_A (MW cy a J I R RJ) s.heap.size = A at hD ⊢
  have hA : ∀ q : Nat, s.heap.size ≤ q → A q := fun q h => by rw [← hAe]; exact Or.inr h
  have hS : va_S A s.heap s.heap [] := va_S.rf
  have hl := lv_entry ([.ref (a 0)]) (n := 1) (Nat.le_of_ble_eq_true rfl)
  rw [lg_entry_eq]
  generalize (lg_sl ([.ref (a 0)]) ++ List.replicate (1 - (lg_sl ([.ref (a 0)])).length) Slot.unset).toArray = ls at hl ⊢
  have hl : lv_has ls 1 [(0, .ref (a 0))] := hl
  have hP : va_P D vwCl (MW cy a (va_up (va_up (va_up J 19 (J 19)) 20 (J 20)) 21 (J 21)) I (va_up R 12 (R 12)) RJ) s.heap := hP
  have hD : va_D A (MW cy a (va_up (va_up (va_up J 19 (J 19)) 20 (J 20)) 21 (J 21)) I (va_up R 12 (R 12)) RJ) := hD
  refine lv_aload_n hx hb dX10_count_0 rfl (lv_at hl 0 rfl) ?_
  refine kM_i (As := []) (rest := []) (q0 := 0) ⟨hx, hb, hml, hown, hts⟩ (t_X10_countAll l D cy a _ (va_up (va_up (va_up J 19 (J 19)) 20 (J 20)) 21 (J 21)) I (va_up R 12 (R 12)) RJ   ⟨hM.1, hM.2.1, hM.2.2.1, hM.2.2.2.1, hM.2.2.2.2.1, hM.2.2.2.2.2⟩) (cwV 0 hts gX10_count_X10_countAll rfl rfl rfl (by decide +kernel) ⟨Nat.le_of_ble_eq_true rfl, Nat.le_of_ble_eq_true rfl⟩) hK hN hP hD hS hA rfl rfl rfl hl.1 rfl (Nat.le_of_ble_eq_true rfl) dX10_count_1 ⟨Nat.le_of_ble_eq_true rfl, Nat.le_of_ble_eq_true rfl⟩ (fun r_1 u H locs hw hP hD hS => ?_)
  obtain ⟨w_2, w_3, w_4, w_5, ⟨hp_6, hp_7⟩, rfl⟩ := hw
  have hP : va_P D vwCl (MW cy a (va_up (va_up (va_up J 19 w_2) 20 w_3) 21 w_4) I (va_up R 12 w_5) RJ) H := hP
  have hD : va_D A (MW cy a (va_up (va_up (va_up J 19 w_2) 20 w_3) 21 w_4) I (va_up R 12 w_5) RJ) := hD
  exact wret_i hx hb hr hlocks ((va_up (va_up (va_up J 19 w_2) 20 w_3) 21 w_4), I, (va_up R 12 w_5), RJ) ⟨w_2, w_3, w_4, w_5, trivial, rfl⟩ hP hD hS dX10_count_4
theorem dX10_with_0 : decode cX10_with 0 = .ok (.iload_n 1, 1) := by decide +kernel
set_option maxRecDepth 20000 in
theorem ggX10_with_X10_isField : GoodIn wsX10_with wsX10_isField := goodIn_r _ [8, 9, 10, 7, 11] rfl (by decide +kernel)
set_option maxRecDepth 20000 in
theorem gX10_with_X10_isField : GoodIn wsX10_with (va_wsS RX10 147 yX10_isField wsX10_isField) := goodIn_app (goodIn_r _ [5, 6, 7] rfl (by decide +kernel)) ggX10_with_X10_isField
theorem dX10_with_1 : decode cX10_with 1 = .ok (.invokestatic 147, 3) := by decide +kernel
theorem dX10_with_4 : decode cX10_with 4 = .ok (.ifCond .ne 10, 3) := by decide +kernel
theorem dX10_with_14 : decode cX10_with 14 = .ok (.iload_n 1, 1) := by decide +kernel
theorem dX10_with_15 : decode cX10_with 15 = .ok (.iload_n 2, 1) := by decide +kernel
set_option maxRecDepth 20000 in
theorem ggX10_with_X10_place : GoodIn wsX10_with wsX10_place := goodIn_r _ [19, 20] rfl (by decide +kernel)
set_option maxRecDepth 20000 in
theorem gX10_with_X10_place : GoodIn wsX10_with (va_wsS RX10 122 yX10_place wsX10_place) := goodIn_app (goodIn_r _ [17, 18, 7] rfl (by decide +kernel)) ggX10_with_X10_place
theorem dX10_with_16 : decode cX10_with 16 = .ok (.invokestatic 122, 3) := by decide +kernel
theorem dX10_with_19 : decode cX10_with 19 = .ok (.lstore_n 3, 1) := by decide +kernel
theorem dX10_with_20 : decode cX10_with 20 = .ok (.lload_n 3, 1) := by decide +kernel
theorem dX10_with_21 : decode cX10_with 21 = .ok (.lconst 0, 1) := by decide +kernel
theorem dX10_with_22 : decode cX10_with 22 = .ok (.lcmp, 1) := by decide +kernel
theorem dX10_with_23 : decode cX10_with 23 = .ok (.ifCond .eq 18, 3) := by decide +kernel
theorem dX10_with_41 : decode cX10_with 41 = .ok (.aload_n 0, 1) := by decide +kernel
theorem dX10_with_42 : decode cX10_with 42 = .ok (.ldc 176, 2) := by decide +kernel
set_option maxRecDepth 20000 in
theorem ggX10_with_X10_finding : GoodIn wsX10_with wsX10_finding := goodIn_r _ [15, 16, 66, 67, 68, 69, 70, 71, 72, 73, 74, 75, 76, 77, 78, 79, 80, 81, 82, 83, 84, 85, 86, 87, 88, 89, 90, 91, 92, 93, 94, 95] rfl (by decide +kernel)
set_option maxRecDepth 20000 in
theorem gX10_with_X10_finding : GoodIn wsX10_with (wsV RX10 99 RX10 yX10_finding wsX10_finding) := goodIn_app (goodIn_r _ [12, 13, 14, 7] rfl (by decide +kernel)) ggX10_with_X10_finding
theorem dX10_with_44 : decode cX10_with 44 = .ok (.invokevirtual 99, 3) := by decide +kernel
theorem dX10_with_47 : decode cX10_with 47 = .ok (.ireturn, 1) := by decide +kernel
theorem dX10_with_26 : decode cX10_with 26 = .ok (.lload_n 3, 1) := by decide +kernel
theorem dX10_with_27 : decode cX10_with 27 = .ok (.aload_n 0, 1) := by decide +kernel
theorem dX10_with_28 : decode cX10_with 28 = .ok (.getfield 81, 3) := by decide +kernel
theorem dX10_with_31 : decode cX10_with 31 = .ok (.ldc2_w 126, 3) := by decide +kernel
theorem dX10_with_34 : decode cX10_with 34 = .ok (.lxor, 1) := by decide +kernel
theorem dX10_with_35 : decode cX10_with 35 = .ok (.land, 1) := by decide +kernel
theorem dX10_with_36 : decode cX10_with 36 = .ok (.lconst 0, 1) := by decide +kernel
theorem dX10_with_37 : decode cX10_with 37 = .ok (.lcmp, 1) := by decide +kernel
theorem dX10_with_38 : decode cX10_with 38 = .ok (.ifCond .eq 10, 3) := by decide +kernel
theorem dX10_with_48 : decode cX10_with 48 = .ok (.aload_n 0, 1) := by decide +kernel
set_option maxRecDepth 20000 in
theorem ggX10_with_X10_findGlued : GoodIn wsX10_with wsX10_findGlued := goodIn_r _ [24, 25, 26, 27, 28, 29, 30, 31, 7, 32, 33, 34, 35, 36, 37, 38, 39, 40, 41, 42, 43, 44, 45, 46, 47, 48, 49, 17, 18, 19, 20, 66, 67, 68, 69, 70, 71, 72, 73, 74, 75, 76, 77, 78, 79, 80, 81, 82, 83, 84, 85, 86, 87, 88, 89, 90, 91, 92, 93, 94, 95] rfl (by decide +kernel)
set_option maxRecDepth 20000 in
theorem gX10_with_X10_findGlued : GoodIn wsX10_with (wsV RX10 201 RX10 yX10_findGlued wsX10_findGlued) := goodIn_app (goodIn_r _ [21, 22, 23, 7] rfl (by decide +kernel)) ggX10_with_X10_findGlued
theorem dX10_with_49 : decode cX10_with 49 = .ok (.invokevirtual 201, 3) := by decide +kernel
theorem dX10_with_52 : decode cX10_with 52 = .ok (.aload_n 0, 1) := by decide +kernel
theorem dX10_with_53 : decode cX10_with 53 = .ok (.iload_n 1, 1) := by decide +kernel
theorem dX10_with_54 : decode cX10_with 54 = .ok (.iload_n 2, 1) := by decide +kernel
set_option maxRecDepth 20000 in
theorem ggX10_with_X10_mayLie : GoodIn wsX10_with wsX10_mayLie := goodIn_r _ [53, 2, 3, 27, 26, 25, 17, 18, 7, 19, 20, 54, 55, 56, 66, 67, 68, 69, 70, 71, 72, 73, 74, 75, 76, 77, 78, 79, 80, 81, 82, 83, 84, 85, 86, 87, 88, 89, 90, 91, 92, 93, 94, 95] rfl (by decide +kernel)
set_option maxRecDepth 20000 in
theorem gX10_with_X10_mayLie : GoodIn wsX10_with (wsV RX10 194 RX10 yX10_mayLie wsX10_mayLie) := goodIn_app (goodIn_r _ [50, 51, 52, 7] rfl (by decide +kernel)) ggX10_with_X10_mayLie
theorem dX10_with_55 : decode cX10_with 55 = .ok (.invokevirtual 194, 3) := by decide +kernel
theorem dX10_with_58 : decode cX10_with 58 = .ok (.ifCond .ne 5, 3) := by decide +kernel
theorem dX10_with_63 : decode cX10_with 63 = .ok (.aload_n 0, 1) := by decide +kernel
theorem dX10_with_64 : decode cX10_with 64 = .ok (.iload_n 1, 1) := by decide +kernel
theorem dX10_with_65 : decode cX10_with 65 = .ok (.iload_n 2, 1) := by decide +kernel
set_option maxRecDepth 20000 in
theorem ggX10_with_X10_must : GoodIn wsX10_with wsX10_must := goodIn_r _ [49, 27, 25, 26, 17, 18, 7, 19, 20, 66, 67, 68, 69, 70, 71, 72, 73, 74, 75, 76, 77, 78, 79, 80, 81, 82, 83, 84, 85, 86, 87, 88, 89, 90, 91, 92, 93, 94, 95] rfl (by decide +kernel)
set_option maxRecDepth 20000 in
theorem gX10_with_X10_must : GoodIn wsX10_with (wsV RX10 190 RX10 yX10_must wsX10_must) := goodIn_app (goodIn_r _ [46, 47, 48, 7] rfl (by decide +kernel)) ggX10_with_X10_must
theorem dX10_with_66 : decode cX10_with 66 = .ok (.invokevirtual 190, 3) := by decide +kernel
theorem dX10_with_69 : decode cX10_with 69 = .ok (.aload_n 0, 1) := by decide +kernel
set_option maxRecDepth 20000 in
theorem ggX10_with_X10_findWays : GoodIn wsX10_with wsX10_findWays := goodIn_r _ [60, 61, 2, 54, 55, 7, 56, 50, 51, 52, 53, 3, 27, 26, 25, 17, 18, 19, 20, 62, 63, 64, 65, 66, 67, 68, 69, 70, 71, 72, 73, 74, 75, 76, 77, 78, 79, 80, 81, 82, 83, 84, 85, 86, 87, 88, 89, 90, 91, 92, 93, 94, 95] rfl (by decide +kernel)
set_option maxRecDepth 20000 in
theorem gX10_with_X10_findWays : GoodIn wsX10_with (wsV RX10 204 RX10 yX10_findWays wsX10_findWays) := goodIn_app (goodIn_r _ [57, 58, 59, 7] rfl (by decide +kernel)) ggX10_with_X10_findWays
theorem dX10_with_70 : decode cX10_with 70 = .ok (.invokevirtual 204, 3) := by decide +kernel
theorem dX10_with_73 : decode cX10_with 73 = .ok (.aload_n 0, 1) := by decide +kernel
theorem dX10_with_74 : decode cX10_with 74 = .ok (.iconst 0, 1) := by decide +kernel
theorem dX10_with_75 : decode cX10_with 75 = .ok (.iconst 0, 1) := by decide +kernel
set_option maxRecDepth 20000 in
theorem ggX10_with_X10_waysAt : GoodIn wsX10_with wsX10_waysAt := goodIn_r _ [65, 61, 66, 67, 68, 69, 70, 71, 72, 73, 74, 75, 76, 77, 78, 79, 80, 81, 82, 83, 84, 85, 86, 87, 88, 89, 90, 91, 92, 93, 94, 95] rfl (by decide +kernel)
set_option maxRecDepth 20000 in
theorem gX10_with_X10_waysAt : GoodIn wsX10_with (wsV RX10 197 RX10 yX10_waysAt wsX10_waysAt) := goodIn_app (goodIn_r _ [62, 63, 64, 7] rfl (by decide +kernel)) ggX10_with_X10_waysAt
theorem dX10_with_76 : decode cX10_with 76 = .ok (.invokevirtual 197, 3) := by decide +kernel
theorem dX10_with_79 : decode cX10_with 79 = .ok (.ireturn, 1) := by decide +kernel
theorem dX10_with_61 : decode cX10_with 61 = .ok (.iconst 0, 1) := by decide +kernel
theorem dX10_with_62 : decode cX10_with 62 = .ok (.ireturn, 1) := by decide +kernel
theorem dX10_with_7 : decode cX10_with 7 = .ok (.aload_n 0, 1) := by decide +kernel
theorem dX10_with_8 : decode cX10_with 8 = .ok (.ldc 141, 2) := by decide +kernel
theorem dX10_with_10 : decode cX10_with 10 = .ok (.invokevirtual 99, 3) := by decide +kernel
theorem dX10_with_13 : decode cX10_with 13 = .ok (.ireturn, 1) := by decide +kernel
set_option maxRecDepth 20000 in
theorem ihX10_with_10 : ∀ w ∈ u_ws RX10 TX10 30, w ∈ wsX10_with := fun _ h => List.mem_cons_of_mem _ (List.mem_append_right _ h)
set_option maxHeartbeats 4000000 in
set_option maxRecDepth 100000 in
theorem t_X10_with (l : Launch) (D : va_G) (cy : Nat → ClassId) (a : Nat → Nat) (sz : Nat) (J : Nat → Int64) (I : Nat → Int32) (R : Nat → Nat → Int32) (RJ : Nat → Nat → Int64) (x0 : Int32) (x1 : Bool) (hM : MI I R) : Met l yX10_with wsX10_with ({ frames := 3, cells := 0, slots := 0, locals := 73 }) (va_Pc [.ref (a 0), .int x0, .int (bI x1)] (PW D cy sz (MW cy a J I R RJ))) (va_Qi (fun r (u : MS) => ∃ (w0 : Int64), ∃ (w1 : Int64), ∃ (w2 : Int64), ∃ (w3 : Int32), ∃ (w4 : Nat → Int32), (True) ∧ u = ((va_up (va_up (va_up J 19 w0) 20 w1) 21 w2), (va_up I 13 w3), (va_up R 12 w4), RJ)) (BW D (va_A (MW cy a J I R RJ) sz) (MWu cy a)) (va_A (MW cy a J I R RJ) sz)) 0 0 (va_A (MW cy a J I R RJ) sz) := by
  refine Met.ofW (cc := cX10_with) (maxL := 5) (ret := (some .int)) (by decide) rfl ?_
  intro p e s m args below meth c s₁ B hml hv
  obtain ⟨rfl, rfl, hP, hK, hN, hD0⟩ := hv
  have hx := B.exec
  have hb := B.bytes
  have hr := B.returns
  have hts := atoms_spec (ws := wsX10_with) B.pre
  have hown : s.vm.findClass RX10 = some m.cls := findClass_of_methodNamed B.named
  have hlocks := B.notSynchronized
  have hw0 := hts (.constant RX10 176 (-100003)) (by decide +kernel)
  have hw1 := hts (.fieldLink RX10 81 "ParquetLayerModel" "floor" "J") (by decide +kernel)
  have hw2 := hts (.constantLong RX10 126 (-1)) (by decide +kernel)
  have hw3 := hts (.constant RX10 141 (-100001)) (by decide +kernel)
  have hi10 := ihX10_with_10
  have hD := hD0.self (sz := s.heap.size)
  generalize hAe : va_A (MW cy a J I R RJ) s.heap.size = A at hD ⊢
  have hA : ∀ q : Nat, s.heap.size ≤ q → A q := fun q h => by rw [← hAe]; exact Or.inr h
  have hS : va_S A s.heap s.heap [] := va_S.rf
  have hl := lv_entry ([.ref (a 0), .int x0, .int (bI x1)]) (n := 5) (Nat.le_of_ble_eq_true rfl)
  rw [lg_entry_eq]
  generalize (lg_sl ([.ref (a 0), .int x0, .int (bI x1)]) ++ List.replicate (5 - (lg_sl ([.ref (a 0), .int x0, .int (bI x1)])).length) Slot.unset).toArray = ls at hl ⊢
  have hl : lv_has ls 5 [(0, .ref (a 0)), (1, .int x0), (2, .int (bI x1))] := hl
  have hP : va_P D vwCl (MW cy a (va_up (va_up (va_up J 19 (J 19)) 20 (J 20)) 21 (J 21)) (va_up I 13 (I 13)) (va_up R 12 (R 12)) RJ) s.heap := hP
  have hD : va_D A (MW cy a (va_up (va_up (va_up J 19 (J 19)) 20 (J 20)) 21 (J 21)) (va_up I 13 (I 13)) (va_up R 12 (R 12)) RJ) := hD
  refine lv_iload_n hx hb dX10_with_0 rfl (lv_at hl 1 rfl) ?_
  refine kS_i (As := [.int x0]) (rest := []) ⟨hx, hb, hml, hown, hts⟩ (c_X10_isField l x0) (va_cwS 1 hts gX10_with_X10_isField rfl rfl rfl (by decide +kernel) ⟨Nat.le_of_ble_eq_true rfl, Nat.le_of_ble_eq_true rfl⟩) rfl hl.1 rfl (Nat.le_of_ble_eq_true rfl) dX10_with_1 ⟨Nat.le_of_ble_eq_true rfl, Nat.le_of_ble_eq_true rfl⟩ ?_
  refine lv_if_ne (tgt := 14) hx hb dX10_with_4 (by decide) (fun c_1 => ?_) (fun c_1 => ?_)
  · replace c_1 := bI_t c_1
    refine lv_iload_n hx hb dX10_with_14 rfl (lv_at hl 1 rfl) ?_
    refine lv_iload_n hx hb dX10_with_15 rfl (lv_at hl 2 rfl) ?_
    refine kS_l (As := [.int x0, .int (bI x1)]) (rest := []) ⟨hx, hb, hml, hown, hts⟩ (c_X10_place l x0 x1) (va_cwS 2 hts gX10_with_X10_place rfl rfl rfl (by decide +kernel) ⟨Nat.le_of_ble_eq_true rfl, Nat.le_of_ble_eq_true rfl⟩) rfl hl.1 rfl (Nat.le_of_ble_eq_true rfl) dX10_with_16 ⟨Nat.le_of_ble_eq_true rfl, Nat.le_of_ble_eq_true rfl⟩ ?_
    refine lv_lstore_n (lv' := [(3, .long (m_place x0 x1)), (0, .ref (a 0)), (1, .int x0), (2, .int (bI x1))]) hx hb dX10_with_19 rfl hl (by decide) rfl (fun ls hl => ?_)
    refine lv_lload_n hx hb dX10_with_20 rfl (lv_at hl 0 rfl) ?_
    refine lv_lconst (v := 0) hx hb dX10_with_21 (by decide) ?_
    refine W.lcmp hx hb dX10_with_22 ?_
    refine lv_if_eq (tgt := 41) hx hb dX10_with_23 (by decide) (fun c_2 => ?_) (fun c_2 => ?_)
    · replace c_2 := (lg_cmp_eq _ _).mp c_2
      refine lv_aload_n hx hb dX10_with_41 rfl (lv_at hl 1 rfl) ?_
      refine lv_ldc (v := (-100003)) hx hb hown hw0 dX10_with_42 ?_
      refine kM_i (As := [.int (-100003)]) (rest := []) (q0 := 0) ⟨hx, hb, hml, hown, hts⟩ (c_X10_finding l D cy a _ (va_up (va_up (va_up J 19 (J 19)) 20 (J 20)) 21 (J 21)) (va_up I 13 (I 13)) (va_up R 12 (R 12)) RJ (-100003) ) (cwV 1 hts gX10_with_X10_finding rfl rfl rfl (by decide +kernel) ⟨Nat.le_of_ble_eq_true rfl, Nat.le_of_ble_eq_true rfl⟩) hK hN hP hD hS hA rfl rfl rfl hl.1 rfl (Nat.le_of_ble_eq_true rfl) dX10_with_44 ⟨Nat.le_of_ble_eq_true rfl, Nat.le_of_ble_eq_true rfl⟩ (fun r_3 u H locs hw hP hD hS => ?_)
      obtain ⟨rfl, rfl⟩ := hw
      have hP : va_P D vwCl (MW cy a (va_up (va_up (va_up J 19 (J 19)) 20 (J 20)) 21 (J 21)) (va_up I 13 ((I 13) + 1)) (va_up R 12 (R 12)) RJ) H := hP
      have hD : va_D A (MW cy a (va_up (va_up (va_up J 19 (J 19)) 20 (J 20)) 21 (J 21)) (va_up I 13 ((I 13) + 1)) (va_up R 12 (R 12)) RJ) := hD
      exact wret_i hx hb hr hlocks ((va_up (va_up (va_up J 19 (J 19)) 20 (J 20)) 21 (J 21)), (va_up I 13 ((I 13) + 1)), (va_up R 12 (R 12)), RJ) ⟨(J 19), (J 20), (J 21), ((I 13) + 1), (R 12), trivial, rfl⟩ hP hD hS dX10_with_47
    · replace c_2 := fun z => c_2 ((lg_cmp_eq _ _).mpr z)
      refine lv_lload_n hx hb dX10_with_26 rfl (lv_at hl 0 rfl) ?_
      refine lv_aload_n hx hb dX10_with_27 rfl (lv_at hl 1 rfl) ?_
      refine va_get (D := D) (ci := 9) (v := .long (J 0)) (C := RX10) (T := TX10) (N := 30) hx hb hts hi10 hown hK hP 0 rfl rfl 0 (by decide) hw1 (fun _ h9 => h9) rfl dX10_with_28 ?_
      refine lv_ldc2 (v := (-1)) hx hb hown hw2 dX10_with_31 ?_
      refine lv_lxor hx hb dX10_with_34 ?_
      refine lv_land hx hb dX10_with_35 ?_
      refine lv_lconst (v := 0) hx hb dX10_with_36 (by decide) ?_
      refine W.lcmp hx hb dX10_with_37 ?_
      refine lv_if_eq (tgt := 48) hx hb dX10_with_38 (by decide) (fun c_4 => ?_) (fun c_4 => ?_)
      · replace c_4 := (lg_cmp_eq _ _).mp c_4
        refine lv_aload_n hx hb dX10_with_48 rfl (lv_at hl 1 rfl) ?_
        refine kM_v (As := []) (rest := []) (q0 := 0) ⟨hx, hb, hml, hown, hts⟩ (t_X10_findGlued l D cy a _ (va_up (va_up (va_up J 19 (J 19)) 20 (J 20)) 21 (J 21)) (va_up I 13 (I 13)) (va_up R 12 (R 12)) RJ   ⟨hM.1, hM.2.1, hM.2.2.1, hM.2.2.2.1, hM.2.2.2.2.1, hM.2.2.2.2.2⟩) (cwV 0 hts gX10_with_X10_findGlued rfl rfl rfl (by decide +kernel) ⟨Nat.le_of_ble_eq_true rfl, Nat.le_of_ble_eq_true rfl⟩) hK hN hP hD hS hA rfl rfl rfl hl.1 rfl (Nat.le_of_ble_eq_true rfl) dX10_with_49 ⟨Nat.le_of_ble_eq_true rfl, Nat.le_of_ble_eq_true rfl⟩ (fun u H locs hw hP hD hS => ?_)
        obtain ⟨w_6, w_7, w_8, -, rfl⟩ := hw
        have hP : va_P D vwCl (MW cy a (va_up (va_up (va_up J 19 w_6) 20 w_7) 21 w_8) (va_up I 13 (I 13)) (va_up R 12 (R 12)) RJ) H := hP
        have hD : va_D A (MW cy a (va_up (va_up (va_up J 19 w_6) 20 w_7) 21 w_8) (va_up I 13 (I 13)) (va_up R 12 (R 12)) RJ) := hD
        refine lv_aload_n hx hb dX10_with_52 rfl (lv_at hl 1 rfl) ?_
        refine lv_iload_n hx hb dX10_with_53 rfl (lv_at hl 2 rfl) ?_
        refine lv_iload_n hx hb dX10_with_54 rfl (lv_at hl 3 rfl) ?_
        refine kR_i (As := [.int x0, .int (bI x1)]) (rest := []) (q0 := 0) ⟨hx, hb, hml, hown, hts⟩ (c_X10_mayLie l D cy a _ (va_up (va_up (va_up J 19 w_6) 20 w_7) 21 w_8) (va_up I 13 (I 13)) (va_up R 12 (R 12)) RJ x0 x1 ) (cwV 2 hts gX10_with_X10_mayLie rfl rfl rfl (by decide +kernel) ⟨Nat.le_of_ble_eq_true rfl, Nat.le_of_ble_eq_true rfl⟩) hK hN hP hD rfl rfl rfl hl.1 rfl (Nat.le_of_ble_eq_true rfl) dX10_with_55 ⟨Nat.le_of_ble_eq_true rfl, Nat.le_of_ble_eq_true rfl⟩ ?_
        refine lv_if_ne (tgt := 63) hx hb dX10_with_58 (by decide) (fun c_9 => ?_) (fun c_9 => ?_)
        · replace c_9 := bI_t c_9
          refine lv_aload_n hx hb dX10_with_63 rfl (lv_at hl 1 rfl) ?_
          refine lv_iload_n hx hb dX10_with_64 rfl (lv_at hl 2 rfl) ?_
          refine lv_iload_n hx hb dX10_with_65 rfl (lv_at hl 3 rfl) ?_
          refine kM_v (As := [.int x0, .int (bI x1)]) (rest := []) (q0 := 0) ⟨hx, hb, hml, hown, hts⟩ (t_X10_must l D cy a _ (va_up (va_up (va_up J 19 w_6) 20 w_7) 21 w_8) (va_up I 13 (I 13)) (va_up R 12 (R 12)) RJ x0 x1  ) (cwV 2 hts gX10_with_X10_must rfl rfl rfl (by decide +kernel) ⟨Nat.le_of_ble_eq_true rfl, Nat.le_of_ble_eq_true rfl⟩) hK hN hP hD hS hA rfl rfl rfl hl.1 rfl (Nat.le_of_ble_eq_true rfl) dX10_with_66 ⟨Nat.le_of_ble_eq_true rfl, Nat.le_of_ble_eq_true rfl⟩ (fun u H locs hw hP hD hS => ?_)
          obtain ⟨w_11, w_12, w_13, -, rfl⟩ := hw
          have hP : va_P D vwCl (MW cy a (va_up (va_up (va_up J 19 w_11) 20 w_12) 21 w_13) (va_up I 13 (I 13)) (va_up R 12 (R 12)) RJ) H := hP
          have hD : va_D A (MW cy a (va_up (va_up (va_up J 19 w_11) 20 w_12) 21 w_13) (va_up I 13 (I 13)) (va_up R 12 (R 12)) RJ) := hD
          refine lv_aload_n hx hb dX10_with_69 rfl (lv_at hl 1 rfl) ?_
          refine kM_v (As := []) (rest := []) (q0 := 0) ⟨hx, hb, hml, hown, hts⟩ (t_X10_findWays l D cy a _ (va_up (va_up (va_up J 19 w_11) 20 w_12) 21 w_13) (va_up I 13 (I 13)) (va_up R 12 (R 12)) RJ   ) (cwV 0 hts gX10_with_X10_findWays rfl rfl rfl (by decide +kernel) ⟨Nat.le_of_ble_eq_true rfl, Nat.le_of_ble_eq_true rfl⟩) hK hN hP hD hS hA rfl rfl rfl hl.1 rfl (Nat.le_of_ble_eq_true rfl) dX10_with_70 ⟨Nat.le_of_ble_eq_true rfl, Nat.le_of_ble_eq_true rfl⟩ (fun u H locs hw hP hD hS => ?_)
          obtain ⟨w_15, hp_16, rfl⟩ := hw
          have hP : va_P D vwCl (MW cy a (va_up (va_up (va_up J 19 w_11) 20 w_12) 21 w_13) (va_up I 13 (I 13)) (va_up R 12 w_15) RJ) H := hP
          have hD : va_D A (MW cy a (va_up (va_up (va_up J 19 w_11) 20 w_12) 21 w_13) (va_up I 13 (I 13)) (va_up R 12 w_15) RJ) := hD
          refine lv_aload_n hx hb dX10_with_73 rfl (lv_at hl 1 rfl) ?_
          refine lv_iconst (v := 0) hx hb dX10_with_74 (by decide) ?_
          refine lv_iconst (v := 0) hx hb dX10_with_75 (by decide) ?_
          refine kR_i (As := [.int 0, .int 0]) (rest := []) (q0 := 0) ⟨hx, hb, hml, hown, hts⟩ (c_X10_waysAt l D cy a _ (va_up (va_up (va_up J 19 w_11) 20 w_12) 21 w_13) (va_up I 13 (I 13)) (va_up R 12 w_15) RJ 0 0 (by unfold vp_in; decide)) (cwV 2 hts gX10_with_X10_waysAt rfl rfl rfl (by decide +kernel) ⟨Nat.le_of_ble_eq_true rfl, Nat.le_of_ble_eq_true rfl⟩) hK hN hP hD rfl rfl rfl hl.1 rfl (Nat.le_of_ble_eq_true rfl) dX10_with_76 ⟨Nat.le_of_ble_eq_true rfl, Nat.le_of_ble_eq_true rfl⟩ ?_
          exact wret_i hx hb hr hlocks ((va_up (va_up (va_up J 19 w_11) 20 w_12) 21 w_13), (va_up I 13 (I 13)), (va_up R 12 w_15), RJ) ⟨w_11, w_12, w_13, (I 13), w_15, trivial, rfl⟩ hP hD hS dX10_with_79
        · replace c_9 := bI_f c_9
          refine lv_iconst (v := 0) hx hb dX10_with_61 (by decide) ?_
          exact wret_i hx hb hr hlocks ((va_up (va_up (va_up J 19 w_6) 20 w_7) 21 w_8), (va_up I 13 (I 13)), (va_up R 12 (R 12)), RJ) ⟨w_6, w_7, w_8, (I 13), (R 12), trivial, rfl⟩ hP hD hS dX10_with_62
      · replace c_4 := fun z => c_4 ((lg_cmp_eq _ _).mpr z)
        refine lv_aload_n hx hb dX10_with_41 rfl (lv_at hl 1 rfl) ?_
        refine lv_ldc (v := (-100003)) hx hb hown hw0 dX10_with_42 ?_
        refine kM_i (As := [.int (-100003)]) (rest := []) (q0 := 0) ⟨hx, hb, hml, hown, hts⟩ (c_X10_finding l D cy a _ (va_up (va_up (va_up J 19 (J 19)) 20 (J 20)) 21 (J 21)) (va_up I 13 (I 13)) (va_up R 12 (R 12)) RJ (-100003) ) (cwV 1 hts gX10_with_X10_finding rfl rfl rfl (by decide +kernel) ⟨Nat.le_of_ble_eq_true rfl, Nat.le_of_ble_eq_true rfl⟩) hK hN hP hD hS hA rfl rfl rfl hl.1 rfl (Nat.le_of_ble_eq_true rfl) dX10_with_44 ⟨Nat.le_of_ble_eq_true rfl, Nat.le_of_ble_eq_true rfl⟩ (fun r_17 u H locs hw hP hD hS => ?_)
        obtain ⟨rfl, rfl⟩ := hw
        have hP : va_P D vwCl (MW cy a (va_up (va_up (va_up J 19 (J 19)) 20 (J 20)) 21 (J 21)) (va_up I 13 ((I 13) + 1)) (va_up R 12 (R 12)) RJ) H := hP
        have hD : va_D A (MW cy a (va_up (va_up (va_up J 19 (J 19)) 20 (J 20)) 21 (J 21)) (va_up I 13 ((I 13) + 1)) (va_up R 12 (R 12)) RJ) := hD
        exact wret_i hx hb hr hlocks ((va_up (va_up (va_up J 19 (J 19)) 20 (J 20)) 21 (J 21)), (va_up I 13 ((I 13) + 1)), (va_up R 12 (R 12)), RJ) ⟨(J 19), (J 20), (J 21), ((I 13) + 1), (R 12), trivial, rfl⟩ hP hD hS dX10_with_47
  · replace c_1 := bI_f c_1
    refine lv_aload_n hx hb dX10_with_7 rfl (lv_at hl 0 rfl) ?_
    refine lv_ldc (v := (-100001)) hx hb hown hw3 dX10_with_8 ?_
    refine kM_i (As := [.int (-100001)]) (rest := []) (q0 := 0) ⟨hx, hb, hml, hown, hts⟩ (c_X10_finding l D cy a _ (va_up (va_up (va_up J 19 (J 19)) 20 (J 20)) 21 (J 21)) (va_up I 13 (I 13)) (va_up R 12 (R 12)) RJ (-100001) ) (cwV 1 hts gX10_with_X10_finding rfl rfl rfl (by decide +kernel) ⟨Nat.le_of_ble_eq_true rfl, Nat.le_of_ble_eq_true rfl⟩) hK hN hP hD hS hA rfl rfl rfl hl.1 rfl (Nat.le_of_ble_eq_true rfl) dX10_with_10 ⟨Nat.le_of_ble_eq_true rfl, Nat.le_of_ble_eq_true rfl⟩ (fun r_18 u H locs hw hP hD hS => ?_)
    obtain ⟨rfl, rfl⟩ := hw
    have hP : va_P D vwCl (MW cy a (va_up (va_up (va_up J 19 (J 19)) 20 (J 20)) 21 (J 21)) (va_up I 13 ((I 13) + 1)) (va_up R 12 (R 12)) RJ) H := hP
    have hD : va_D A (MW cy a (va_up (va_up (va_up J 19 (J 19)) 20 (J 20)) 21 (J 21)) (va_up I 13 ((I 13) + 1)) (va_up R 12 (R 12)) RJ) := hD
    exact wret_i hx hb hr hlocks ((va_up (va_up (va_up J 19 (J 19)) 20 (J 20)) 21 (J 21)), (va_up I 13 ((I 13) + 1)), (va_up R 12 (R 12)), RJ) ⟨(J 19), (J 20), (J 21), ((I 13) + 1), (R 12), trivial, rfl⟩ hP hD hS dX10_with_13
theorem dX10_lay_0 : decode cX10_lay 0 = .ok (.iload_n 1, 1) := by decide +kernel
theorem dX10_lay_1 : decode cX10_lay 1 = .ok (.ifCond .lt 11, 3) := by decide +kernel
theorem dX10_lay_12 : decode cX10_lay 12 = .ok (.aload_n 0, 1) := by decide +kernel
theorem dX10_lay_13 : decode cX10_lay 13 = .ok (.ldc 141, 2) := by decide +kernel
set_option maxRecDepth 20000 in
theorem ggX10_lay_X10_finding : GoodIn wsX10_lay wsX10_finding := goodIn_r _ [61, 62, 76, 77, 78, 79, 80, 81, 82, 83, 84, 85, 86, 87, 88, 89, 90, 91, 92, 93, 94, 95, 96, 97, 98, 99, 100, 101, 102, 103, 104, 105] rfl (by decide +kernel)
set_option maxRecDepth 20000 in
theorem gX10_lay_X10_finding : GoodIn wsX10_lay (wsV RX10 99 RX10 yX10_finding wsX10_finding) := goodIn_app (goodIn_r _ [58, 59, 60, 5] rfl (by decide +kernel)) ggX10_lay_X10_finding
theorem dX10_lay_15 : decode cX10_lay 15 = .ok (.invokevirtual 99, 3) := by decide +kernel
theorem dX10_lay_18 : decode cX10_lay 18 = .ok (.ireturn, 1) := by decide +kernel
theorem dX10_lay_4 : decode cX10_lay 4 = .ok (.iload_n 1, 1) := by decide +kernel
theorem dX10_lay_5 : decode cX10_lay 5 = .ok (.aload_n 0, 1) := by decide +kernel
set_option maxRecDepth 20000 in
theorem ggX10_lay_X10_countAll : GoodIn wsX10_lay wsX10_countAll := goodIn_r _ [6, 7, 8, 9, 5, 10, 11, 12, 13, 14, 15, 16, 17, 18, 19, 20, 21, 22, 23, 24, 25, 26, 27, 28, 29, 30, 31, 32, 33, 34, 35, 36, 37, 38, 39, 40, 41, 42, 43, 44, 45, 46, 47, 48, 49, 50, 51, 52, 53, 54, 55, 56, 57, 76, 77, 78, 79, 80, 81, 82, 83, 84, 85, 86, 87, 88, 89, 90, 91, 92, 93, 94, 95, 96, 97, 98, 99, 100, 101, 102, 103, 104, 105] rfl (by decide +kernel)
set_option maxRecDepth 20000 in
theorem gX10_lay_X10_countAll : GoodIn wsX10_lay (wsV RX10 207 RX10 yX10_countAll wsX10_countAll) := goodIn_app (goodIn_r _ [2, 3, 4, 5] rfl (by decide +kernel)) ggX10_lay_X10_countAll
theorem dX10_lay_6 : decode cX10_lay 6 = .ok (.invokevirtual 207, 3) := by decide +kernel
theorem dX10_lay_9 : decode cX10_lay 9 = .ok (.if_icmp .lt 10, 3) := by decide +kernel
theorem dX10_lay_19 : decode cX10_lay 19 = .ok (.aload_n 0, 1) := by decide +kernel
theorem dX10_lay_20 : decode cX10_lay 20 = .ok (.iload_n 1, 1) := by decide +kernel
set_option maxRecDepth 20000 in
theorem ggX10_lay_X10_take : GoodIn wsX10_lay wsX10_take := goodIn_r _ [66, 67, 68, 69, 70, 71, 72, 73, 74, 5, 75, 45, 46, 47, 48, 49, 50, 51, 52, 53, 13, 12, 11, 36, 37, 38, 39, 54, 55, 56, 57, 44, 76, 77, 78, 79, 80, 81, 82, 83, 84, 85, 86, 87, 88, 89, 90, 91, 92, 93, 94, 95, 96, 97, 98, 99, 100, 101, 102, 103, 104, 105] rfl (by decide +kernel)
set_option maxRecDepth 20000 in
theorem gX10_lay_X10_take : GoodIn wsX10_lay (wsV RX10 220 RX10 yX10_take wsX10_take) := goodIn_app (goodIn_r _ [63, 64, 65, 5] rfl (by decide +kernel)) ggX10_lay_X10_take
theorem dX10_lay_21 : decode cX10_lay 21 = .ok (.invokevirtual 220, 3) := by decide +kernel
theorem dX10_lay_24 : decode cX10_lay 24 = .ok (.iconst 1, 1) := by decide +kernel
theorem dX10_lay_25 : decode cX10_lay 25 = .ok (.ireturn, 1) := by decide +kernel
set_option maxHeartbeats 4000000 in
set_option maxRecDepth 100000 in
theorem t_X10_lay (l : Launch) (D : va_G) (cy : Nat → ClassId) (a : Nat → Nat) (sz : Nat) (J : Nat → Int64) (I : Nat → Int32) (R : Nat → Nat → Int32) (RJ : Nat → Nat → Int64) (x0 : Int32) (hM : MI I R) : Met l yX10_lay wsX10_lay ({ frames := 4, cells := 0, slots := 0, locals := 94 }) (va_Pc [.ref (a 0), .int x0] (PW D cy sz (MW cy a J I R RJ))) (va_Qi (fun r (u : MS) => ∃ (w0 : Int64), ∃ (w1 : Int64), ∃ (w2 : Int64), ∃ (w3 : Int64), ∃ (w4 : Int64), ∃ (w5 : Int64), ∃ (w6 : Int64), ∃ (w7 : Int32), ∃ (w8 : Int32), ∃ (w9 : Nat → Int32), ((isB w7)) ∧ u = ((va_up (va_up (va_up (va_up (va_up (va_up (va_up J 4 w0) 5 w1) 19 w2) 20 w3) 21 w4) 22 w5) 23 w6), (va_up (va_up I 3 w7) 13 w8), (va_up R 12 w9), RJ)) (BW D (va_A (MW cy a J I R RJ) sz) (MWu cy a)) (va_A (MW cy a J I R RJ) sz)) 0 0 (va_A (MW cy a J I R RJ) sz) := by
  refine Met.ofW (cc := cX10_lay) (maxL := 2) (ret := (some .int)) (by decide) rfl ?_
  intro p e s m args below meth c s₁ B hml hv
  obtain ⟨rfl, rfl, hP, hK, hN, hD0⟩ := hv
  have hx := B.exec
  have hb := B.bytes
  have hr := B.returns
  have hts := atoms_spec (ws := wsX10_lay) B.pre
  have hown : s.vm.findClass RX10 = some m.cls := findClass_of_methodNamed B.named
  have hlocks := B.notSynchronized
  have hw0 := hts (.constant RX10 141 (-100001)) (by decide +kernel)
  have hD := hD0.self (sz := s.heap.size)
  generalize hAe : va_A (MW cy a J I R RJ) s.heap.size = A at hD ⊢
  have hA : ∀ q : Nat, s.heap.size ≤ q → A q := fun q h => by rw [← hAe]; exact Or.inr h
  have hS : va_S A s.heap s.heap [] := va_S.rf
  have hl := lv_entry ([.ref (a 0), .int x0]) (n := 2) (Nat.le_of_ble_eq_true rfl)
  rw [lg_entry_eq]
  generalize (lg_sl ([.ref (a 0), .int x0]) ++ List.replicate (2 - (lg_sl ([.ref (a 0), .int x0])).length) Slot.unset).toArray = ls at hl ⊢
  have hl : lv_has ls 2 [(0, .ref (a 0)), (1, .int x0)] := hl
  have hP : va_P D vwCl (MW cy a (va_up (va_up (va_up (va_up (va_up (va_up (va_up J 4 (J 4)) 5 (J 5)) 19 (J 19)) 20 (J 20)) 21 (J 21)) 22 (J 22)) 23 (J 23)) (va_up (va_up I 3 (I 3)) 13 (I 13)) (va_up R 12 (R 12)) RJ) s.heap := hP
  have hD : va_D A (MW cy a (va_up (va_up (va_up (va_up (va_up (va_up (va_up J 4 (J 4)) 5 (J 5)) 19 (J 19)) 20 (J 20)) 21 (J 21)) 22 (J 22)) 23 (J 23)) (va_up (va_up I 3 (I 3)) 13 (I 13)) (va_up R 12 (R 12)) RJ) := hD
  refine lv_iload_n hx hb dX10_lay_0 rfl (lv_at hl 1 rfl) ?_
  refine lv_if_lt (tgt := 12) hx hb dX10_lay_1 (by decide) (fun c_1 => ?_) (fun c_1 => ?_)
  · refine lv_aload_n hx hb dX10_lay_12 rfl (lv_at hl 0 rfl) ?_
    refine lv_ldc (v := (-100001)) hx hb hown hw0 dX10_lay_13 ?_
    refine kM_i (As := [.int (-100001)]) (rest := []) (q0 := 0) ⟨hx, hb, hml, hown, hts⟩ (c_X10_finding l D cy a _ (va_up (va_up (va_up (va_up (va_up (va_up (va_up J 4 (J 4)) 5 (J 5)) 19 (J 19)) 20 (J 20)) 21 (J 21)) 22 (J 22)) 23 (J 23)) (va_up (va_up I 3 (I 3)) 13 (I 13)) (va_up R 12 (R 12)) RJ (-100001) ) (cwV 1 hts gX10_lay_X10_finding rfl rfl rfl (by decide +kernel) ⟨Nat.le_of_ble_eq_true rfl, Nat.le_of_ble_eq_true rfl⟩) hK hN hP hD hS hA rfl rfl rfl hl.1 rfl (Nat.le_of_ble_eq_true rfl) dX10_lay_15 ⟨Nat.le_of_ble_eq_true rfl, Nat.le_of_ble_eq_true rfl⟩ (fun r_2 u H locs hw hP hD hS => ?_)
    obtain ⟨rfl, rfl⟩ := hw
    have hP : va_P D vwCl (MW cy a (va_up (va_up (va_up (va_up (va_up (va_up (va_up J 4 (J 4)) 5 (J 5)) 19 (J 19)) 20 (J 20)) 21 (J 21)) 22 (J 22)) 23 (J 23)) (va_up (va_up I 3 (I 3)) 13 ((I 13) + 1)) (va_up R 12 (R 12)) RJ) H := hP
    have hD : va_D A (MW cy a (va_up (va_up (va_up (va_up (va_up (va_up (va_up J 4 (J 4)) 5 (J 5)) 19 (J 19)) 20 (J 20)) 21 (J 21)) 22 (J 22)) 23 (J 23)) (va_up (va_up I 3 (I 3)) 13 ((I 13) + 1)) (va_up R 12 (R 12)) RJ) := hD
    exact wret_i hx hb hr hlocks ((va_up (va_up (va_up (va_up (va_up (va_up (va_up J 4 (J 4)) 5 (J 5)) 19 (J 19)) 20 (J 20)) 21 (J 21)) 22 (J 22)) 23 (J 23)), (va_up (va_up I 3 (I 3)) 13 ((I 13) + 1)), (va_up R 12 (R 12)), RJ) ⟨(J 4), (J 5), (J 19), (J 20), (J 21), (J 22), (J 23), (I 3), ((I 13) + 1), (R 12), hM.2.1, rfl⟩ hP hD hS dX10_lay_18
  · refine lv_iload_n hx hb dX10_lay_4 rfl (lv_at hl 1 rfl) ?_
    refine lv_aload_n hx hb dX10_lay_5 rfl (lv_at hl 0 rfl) ?_
    refine kM_i (As := []) (rest := [.int x0]) (q0 := 0) ⟨hx, hb, hml, hown, hts⟩ (t_X10_countAll l D cy a _ (va_up (va_up (va_up (va_up (va_up (va_up (va_up J 4 (J 4)) 5 (J 5)) 19 (J 19)) 20 (J 20)) 21 (J 21)) 22 (J 22)) 23 (J 23)) (va_up (va_up I 3 (I 3)) 13 (I 13)) (va_up R 12 (R 12)) RJ   ⟨hM.1, hM.2.1, hM.2.2.1, hM.2.2.2.1, hM.2.2.2.2.1, hM.2.2.2.2.2⟩) (cwV 0 hts gX10_lay_X10_countAll rfl rfl rfl (by decide +kernel) ⟨Nat.le_of_ble_eq_true rfl, Nat.le_of_ble_eq_true rfl⟩) hK hN hP hD hS hA rfl rfl rfl hl.1 rfl (Nat.le_of_ble_eq_true rfl) dX10_lay_6 ⟨Nat.le_of_ble_eq_true rfl, Nat.le_of_ble_eq_true rfl⟩ (fun r_3 u H locs hw hP hD hS => ?_)
    obtain ⟨w_4, w_5, w_6, w_7, ⟨hp_8, hp_9⟩, rfl⟩ := hw
    have hP : va_P D vwCl (MW cy a (va_up (va_up (va_up (va_up (va_up (va_up (va_up J 4 (J 4)) 5 (J 5)) 19 w_4) 20 w_5) 21 w_6) 22 (J 22)) 23 (J 23)) (va_up (va_up I 3 (I 3)) 13 (I 13)) (va_up R 12 w_7) RJ) H := hP
    have hD : va_D A (MW cy a (va_up (va_up (va_up (va_up (va_up (va_up (va_up J 4 (J 4)) 5 (J 5)) 19 w_4) 20 w_5) 21 w_6) 22 (J 22)) 23 (J 23)) (va_up (va_up I 3 (I 3)) 13 (I 13)) (va_up R 12 w_7) RJ) := hD
    refine lv_icmp_lt (tgt := 19) hx hb dX10_lay_9 (by decide) (fun c_10 => ?_) (fun c_10 => ?_)
    · refine lv_aload_n hx hb dX10_lay_19 rfl (lv_at hl 0 rfl) ?_
      refine lv_iload_n hx hb dX10_lay_20 rfl (lv_at hl 1 rfl) ?_
      refine kM_v (As := [.int x0]) (rest := []) (q0 := 0) ⟨hx, hb, hml, hown, hts⟩ (t_X10_take l D cy a _ (va_up (va_up (va_up (va_up (va_up (va_up (va_up J 4 (J 4)) 5 (J 5)) 19 w_4) 20 w_5) 21 w_6) 22 (J 22)) 23 (J 23)) (va_up (va_up I 3 (I 3)) 13 (I 13)) (va_up R 12 w_7) RJ x0  ⟨hM.1, hM.2.1, hM.2.2.1, hM.2.2.2.1, hM.2.2.2.2.1, hM.2.2.2.2.2⟩) (cwV 1 hts gX10_lay_X10_take rfl rfl rfl (by decide +kernel) ⟨Nat.le_of_ble_eq_true rfl, Nat.le_of_ble_eq_true rfl⟩) hK hN hP hD hS hA rfl rfl rfl hl.1 rfl (Nat.le_of_ble_eq_true rfl) dX10_lay_21 ⟨Nat.le_of_ble_eq_true rfl, Nat.le_of_ble_eq_true rfl⟩ (fun u H locs hw hP hD hS => ?_)
      obtain ⟨w_12, w_13, w_14, w_15, w_16, hi_17, rfl⟩ := hw
      have hP : va_P D vwCl (MW cy a (va_up (va_up (va_up (va_up (va_up (va_up (va_up J 4 w_12) 5 w_13) 19 w_4) 20 w_5) 21 w_6) 22 w_14) 23 w_15) (va_up (va_up I 3 w_16) 13 (I 13)) (va_up R 12 w_7) RJ) H := hP
      have hD : va_D A (MW cy a (va_up (va_up (va_up (va_up (va_up (va_up (va_up J 4 w_12) 5 w_13) 19 w_4) 20 w_5) 21 w_6) 22 w_14) 23 w_15) (va_up (va_up I 3 w_16) 13 (I 13)) (va_up R 12 w_7) RJ) := hD
      refine lv_iconst (v := 1) hx hb dX10_lay_24 (by decide) ?_
      exact wret_i hx hb hr hlocks ((va_up (va_up (va_up (va_up (va_up (va_up (va_up J 4 w_12) 5 w_13) 19 w_4) 20 w_5) 21 w_6) 22 w_14) 23 w_15), (va_up (va_up I 3 w_16) 13 (I 13)), (va_up R 12 w_7), RJ) ⟨w_12, w_13, w_4, w_5, w_6, w_14, w_15, w_16, (I 13), w_7, hi_17, rfl⟩ hP hD hS dX10_lay_25
    · refine lv_aload_n hx hb dX10_lay_12 rfl (lv_at hl 0 rfl) ?_
      refine lv_ldc (v := (-100001)) hx hb hown hw0 dX10_lay_13 ?_
      refine kM_i (As := [.int (-100001)]) (rest := []) (q0 := 0) ⟨hx, hb, hml, hown, hts⟩ (c_X10_finding l D cy a _ (va_up (va_up (va_up (va_up (va_up (va_up (va_up J 4 (J 4)) 5 (J 5)) 19 w_4) 20 w_5) 21 w_6) 22 (J 22)) 23 (J 23)) (va_up (va_up I 3 (I 3)) 13 (I 13)) (va_up R 12 w_7) RJ (-100001) ) (cwV 1 hts gX10_lay_X10_finding rfl rfl rfl (by decide +kernel) ⟨Nat.le_of_ble_eq_true rfl, Nat.le_of_ble_eq_true rfl⟩) hK hN hP hD hS hA rfl rfl rfl hl.1 rfl (Nat.le_of_ble_eq_true rfl) dX10_lay_15 ⟨Nat.le_of_ble_eq_true rfl, Nat.le_of_ble_eq_true rfl⟩ (fun r_18 u H locs hw hP hD hS => ?_)
      obtain ⟨rfl, rfl⟩ := hw
      have hP : va_P D vwCl (MW cy a (va_up (va_up (va_up (va_up (va_up (va_up (va_up J 4 (J 4)) 5 (J 5)) 19 w_4) 20 w_5) 21 w_6) 22 (J 22)) 23 (J 23)) (va_up (va_up I 3 (I 3)) 13 ((I 13) + 1)) (va_up R 12 w_7) RJ) H := hP
      have hD : va_D A (MW cy a (va_up (va_up (va_up (va_up (va_up (va_up (va_up J 4 (J 4)) 5 (J 5)) 19 w_4) 20 w_5) 21 w_6) 22 (J 22)) 23 (J 23)) (va_up (va_up I 3 (I 3)) 13 ((I 13) + 1)) (va_up R 12 w_7) RJ) := hD
      exact wret_i hx hb hr hlocks ((va_up (va_up (va_up (va_up (va_up (va_up (va_up J 4 (J 4)) 5 (J 5)) 19 w_4) 20 w_5) 21 w_6) 22 (J 22)) 23 (J 23)), (va_up (va_up I 3 (I 3)) 13 ((I 13) + 1)), (va_up R 12 w_7), RJ) ⟨(J 4), (J 5), w_4, w_5, w_6, (J 22), (J 23), (I 3), ((I 13) + 1), w_7, hM.2.1, rfl⟩ hP hD hS dX10_lay_18
theorem dX10_rankNow_0 : decode cX10_rankNow 0 = .ok (.aload_n 0, 1) := by decide +kernel
set_option maxRecDepth 20000 in
theorem ggX10_rankNow_X10_countAll : GoodIn wsX10_rankNow wsX10_countAll := goodIn_r _ [7, 8, 9, 10, 6, 11, 12, 13, 14, 15, 16, 17, 18, 19, 20, 21, 22, 23, 24, 25, 26, 27, 28, 29, 30, 31, 32, 33, 34, 35, 36, 37, 38, 39, 40, 41, 42, 43, 44, 45, 46, 47, 48, 49, 50, 51, 52, 53, 54, 55, 56, 57, 58, 63, 64, 65, 66, 67, 68, 69, 70, 71, 72, 73, 74, 75, 76, 77, 78, 79, 80, 81, 82, 83, 84, 85, 86, 87, 88, 89, 90, 91, 92] rfl (by decide +kernel)
set_option maxRecDepth 20000 in
theorem gX10_rankNow_X10_countAll : GoodIn wsX10_rankNow (wsV RX10 207 RX10 yX10_countAll wsX10_countAll) := goodIn_app (goodIn_r _ [3, 4, 5, 6] rfl (by decide +kernel)) ggX10_rankNow_X10_countAll
theorem dX10_rankNow_1 : decode cX10_rankNow 1 = .ok (.invokevirtual 207, 3) := by decide +kernel
theorem dX10_rankNow_4 : decode cX10_rankNow 4 = .ok (.istore_n 1, 1) := by decide +kernel
theorem dX10_rankNow_5 : decode cX10_rankNow 5 = .ok (.aload_n 0, 1) := by decide +kernel
theorem dX10_rankNow_6 : decode cX10_rankNow 6 = .ok (.aload_n 0, 1) := by decide +kernel
theorem dX10_rankNow_7 : decode cX10_rankNow 7 = .ok (.getfield 92, 3) := by decide +kernel
theorem dX10_rankNow_10 : decode cX10_rankNow 10 = .ok (.aload_n 0, 1) := by decide +kernel
theorem dX10_rankNow_11 : decode cX10_rankNow 11 = .ok (.getfield 95, 3) := by decide +kernel
set_option maxRecDepth 20000 in
theorem ggX10_rankNow_X10_numberOf : GoodIn wsX10_rankNow wsX10_numberOf := goodIn_r _ [62, 46, 47, 48, 6, 49, 50, 51, 52, 53, 54, 14, 13, 12, 37, 38, 39, 40, 55, 56, 57, 58, 45, 63, 64, 65, 66, 67, 68, 69, 70, 71, 72, 73, 74, 75, 76, 77, 78, 79, 80, 81, 82, 83, 84, 85, 86, 87, 88, 89, 90, 91, 92] rfl (by decide +kernel)
set_option maxRecDepth 20000 in
theorem gX10_rankNow_X10_numberOf : GoodIn wsX10_rankNow (wsV RX10 223 RX10 yX10_numberOf wsX10_numberOf) := goodIn_app (goodIn_r _ [59, 60, 61, 6] rfl (by decide +kernel)) ggX10_rankNow_X10_numberOf
theorem dX10_rankNow_14 : decode cX10_rankNow 14 = .ok (.invokevirtual 223, 3) := by decide +kernel
theorem dX10_rankNow_17 : decode cX10_rankNow 17 = .ok (.ireturn, 1) := by decide +kernel
set_option maxRecDepth 20000 in
theorem ihX10_rankNow_10 : ∀ w ∈ u_ws RX10 TX10 30, w ∈ wsX10_rankNow := fun _ h => List.mem_cons_of_mem _ (List.mem_append_right _ h)
set_option maxHeartbeats 4000000 in
set_option maxRecDepth 100000 in
theorem t_X10_rankNow (l : Launch) (D : va_G) (cy : Nat → ClassId) (a : Nat → Nat) (sz : Nat) (J : Nat → Int64) (I : Nat → Int32) (R : Nat → Nat → Int32) (RJ : Nat → Nat → Int64)  (hM : MI I R) : Met l yX10_rankNow wsX10_rankNow ({ frames := 4, cells := 0, slots := 0, locals := 93 }) (va_Pc [.ref (a 0)] (PW D cy sz (MW cy a J I R RJ))) (va_Qi (fun r (u : MS) => ∃ (w0 : Int64), ∃ (w1 : Int64), ∃ (w2 : Int64), ∃ (w3 : Nat → Int32), (True) ∧ u = ((va_up (va_up (va_up J 19 w0) 20 w1) 21 w2), I, (va_up R 12 w3), RJ)) (BW D (va_A (MW cy a J I R RJ) sz) (MWu cy a)) (va_A (MW cy a J I R RJ) sz)) 0 0 (va_A (MW cy a J I R RJ) sz) := by
  refine Met.ofW (cc := cX10_rankNow) (maxL := 2) (ret := (some .int)) (by decide) rfl ?_
  intro p e s m args below meth c s₁ B hml hv
  obtain ⟨rfl, rfl, hP, hK, hN, hD0⟩ := hv
  have hx := B.exec
  have hb := B.bytes
  have hr := B.returns
  have hts := atoms_spec (ws := wsX10_rankNow) B.pre
  have hown : s.vm.findClass RX10 = some m.cls := findClass_of_methodNamed B.named
  have hlocks := B.notSynchronized
  have hw0 := hts (.fieldLink RX10 92 "ParquetLayerModel" "along" "J") (by decide +kernel)
  have hw1 := hts (.fieldLink RX10 95 "ParquetLayerModel" "across" "J") (by decide +kernel)
  have hi10 := ihX10_rankNow_10
  have hD := hD0.self (sz := s.heap.size)
  generalize hAe : va_A (MW cy a J I R RJ) s.heap.size = A at hD ⊢
  have hA : ∀ q : Nat, s.heap.size ≤ q → A q := fun q h => by rw [← hAe]; exact Or.inr h
  have hS : va_S A s.heap s.heap [] := va_S.rf
  have hl := lv_entry ([.ref (a 0)]) (n := 2) (Nat.le_of_ble_eq_true rfl)
  rw [lg_entry_eq]
  generalize (lg_sl ([.ref (a 0)]) ++ List.replicate (2 - (lg_sl ([.ref (a 0)])).length) Slot.unset).toArray = ls at hl ⊢
  have hl : lv_has ls 2 [(0, .ref (a 0))] := hl
  have hP : va_P D vwCl (MW cy a (va_up (va_up (va_up J 19 (J 19)) 20 (J 20)) 21 (J 21)) I (va_up R 12 (R 12)) RJ) s.heap := hP
  have hD : va_D A (MW cy a (va_up (va_up (va_up J 19 (J 19)) 20 (J 20)) 21 (J 21)) I (va_up R 12 (R 12)) RJ) := hD
  refine lv_aload_n hx hb dX10_rankNow_0 rfl (lv_at hl 0 rfl) ?_
  refine kM_i (As := []) (rest := []) (q0 := 0) ⟨hx, hb, hml, hown, hts⟩ (t_X10_countAll l D cy a _ (va_up (va_up (va_up J 19 (J 19)) 20 (J 20)) 21 (J 21)) I (va_up R 12 (R 12)) RJ   ⟨hM.1, hM.2.1, hM.2.2.1, hM.2.2.2.1, hM.2.2.2.2.1, hM.2.2.2.2.2⟩) (cwV 0 hts gX10_rankNow_X10_countAll rfl rfl rfl (by decide +kernel) ⟨Nat.le_of_ble_eq_true rfl, Nat.le_of_ble_eq_true rfl⟩) hK hN hP hD hS hA rfl rfl rfl hl.1 rfl (Nat.le_of_ble_eq_true rfl) dX10_rankNow_1 ⟨Nat.le_of_ble_eq_true rfl, Nat.le_of_ble_eq_true rfl⟩ (fun r_1 u H locs hw hP hD hS => ?_)
  obtain ⟨w_2, w_3, w_4, w_5, ⟨hp_6, hp_7⟩, rfl⟩ := hw
  have hP : va_P D vwCl (MW cy a (va_up (va_up (va_up J 19 w_2) 20 w_3) 21 w_4) I (va_up R 12 w_5) RJ) H := hP
  have hD : va_D A (MW cy a (va_up (va_up (va_up J 19 w_2) 20 w_3) 21 w_4) I (va_up R 12 w_5) RJ) := hD
  refine lv_istore_n (lv' := [(1, .int r_1), (0, .ref (a 0))]) hx hb dX10_rankNow_4 rfl hl (by decide) rfl (fun ls hl => ?_)
  refine lv_aload_n hx hb dX10_rankNow_5 rfl (lv_at hl 1 rfl) ?_
  refine lv_aload_n hx hb dX10_rankNow_6 rfl (lv_at hl 1 rfl) ?_
  refine va_get (D := D) (ci := 9) (v := .long (J 4)) (C := RX10) (T := TX10) (N := 30) hx hb hts hi10 hown hK hP 0 rfl rfl 4 (by decide) hw0 (fun _ h9 => h9) rfl dX10_rankNow_7 ?_
  refine lv_aload_n hx hb dX10_rankNow_10 rfl (lv_at hl 1 rfl) ?_
  refine va_get (D := D) (ci := 9) (v := .long (J 5)) (C := RX10) (T := TX10) (N := 30) hx hb hts hi10 hown hK hP 0 rfl rfl 5 (by decide) hw1 (fun _ h9 => h9) rfl dX10_rankNow_11 ?_
  refine kM_i (As := [.long (J 4), .long (J 5)]) (rest := []) (q0 := 0) ⟨hx, hb, hml, hown, hts⟩ (t_X10_numberOf l D cy a _ (va_up (va_up (va_up J 19 w_2) 20 w_3) 21 w_4) I (va_up R 12 w_5) RJ (J 4) (J 5)  ) (cwV 2 hts gX10_rankNow_X10_numberOf rfl rfl rfl (by decide +kernel) ⟨Nat.le_of_ble_eq_true rfl, Nat.le_of_ble_eq_true rfl⟩) hK hN hP hD hS hA rfl rfl rfl hl.1 rfl (Nat.le_of_ble_eq_true rfl) dX10_rankNow_14 ⟨Nat.le_of_ble_eq_true rfl, Nat.le_of_ble_eq_true rfl⟩ (fun r_8 u H locs hw hP hD hS => ?_)
  obtain ⟨-, rfl⟩ := hw
  have hP : va_P D vwCl (MW cy a (va_up (va_up (va_up J 19 w_2) 20 w_3) 21 w_4) I (va_up R 12 w_5) RJ) H := hP
  have hD : va_D A (MW cy a (va_up (va_up (va_up J 19 w_2) 20 w_3) 21 w_4) I (va_up R 12 w_5) RJ) := hD
  exact wret_i hx hb hr hlocks ((va_up (va_up (va_up J 19 w_2) 20 w_3) 21 w_4), I, (va_up R 12 w_5), RJ) ⟨w_2, w_3, w_4, w_5, trivial, rfl⟩ hP hD hS dX10_rankNow_17
theorem dX10_rank_0 : decode cX10_rank 0 = .ok (.aload_n 0, 1) := by decide +kernel
theorem dX10_rank_1 : decode cX10_rank 1 = .ok (.getfield 88, 3) := by decide +kernel
theorem dX10_rank_4 : decode cX10_rank 4 = .ok (.ifCond .eq 10, 3) := by decide +kernel
theorem dX10_rank_14 : decode cX10_rank 14 = .ok (.aload_n 0, 1) := by decide +kernel
theorem dX10_rank_15 : decode cX10_rank 15 = .ok (.ldc 98, 2) := by decide +kernel
set_option maxRecDepth 20000 in
theorem ggX10_rank_X10_finding : GoodIn wsX10_rank wsX10_finding := goodIn_r _ [72, 73, 74, 75, 76, 77, 78, 79, 80, 81, 82, 83, 84, 85, 86, 87, 88, 89, 90, 91, 92, 93, 94, 95, 96, 97, 98, 99, 100, 101, 102, 103] rfl (by decide +kernel)
set_option maxRecDepth 20000 in
theorem gX10_rank_X10_finding : GoodIn wsX10_rank (wsV RX10 99 RX10 yX10_finding wsX10_finding) := goodIn_app (goodIn_r _ [69, 70, 71, 6] rfl (by decide +kernel)) ggX10_rank_X10_finding
theorem dX10_rank_17 : decode cX10_rank 17 = .ok (.invokevirtual 99, 3) := by decide +kernel
theorem dX10_rank_20 : decode cX10_rank 20 = .ok (.ireturn, 1) := by decide +kernel
theorem dX10_rank_7 : decode cX10_rank 7 = .ok (.aload_n 0, 1) := by decide +kernel
set_option maxRecDepth 20000 in
theorem ggX10_rank_X10_rankNow : GoodIn wsX10_rank wsX10_rankNow := goodIn_r _ [7, 8, 9, 10, 11, 12, 6, 13, 14, 15, 16, 17, 18, 19, 20, 21, 22, 23, 24, 25, 26, 27, 28, 29, 30, 31, 32, 33, 34, 35, 36, 37, 38, 39, 40, 41, 42, 43, 44, 45, 46, 47, 48, 49, 50, 51, 52, 53, 54, 55, 56, 57, 58, 59, 60, 61, 62, 63, 64, 65, 66, 67, 68, 74, 75, 76, 77, 78, 79, 80, 81, 82, 83, 84, 85, 86, 87, 88, 89, 90, 91, 92, 93, 94, 95, 96, 97, 98, 99, 100, 101, 102, 103] rfl (by decide +kernel)
set_option maxRecDepth 20000 in
theorem gX10_rank_X10_rankNow : GoodIn wsX10_rank (wsV RX10 227 RX10 yX10_rankNow wsX10_rankNow) := goodIn_app (goodIn_r _ [3, 4, 5, 6] rfl (by decide +kernel)) ggX10_rank_X10_rankNow
theorem dX10_rank_8 : decode cX10_rank 8 = .ok (.invokevirtual 227, 3) := by decide +kernel
theorem dX10_rank_11 : decode cX10_rank 11 = .ok (.goto 9, 3) := by decide +kernel
set_option maxRecDepth 20000 in
theorem ihX10_rank_10 : ∀ w ∈ u_ws RX10 TX10 30, w ∈ wsX10_rank := fun _ h => List.mem_cons_of_mem _ (List.mem_append_right _ h)
set_option maxHeartbeats 4000000 in
set_option maxRecDepth 100000 in
theorem t_X10_rank (l : Launch) (D : va_G) (cy : Nat → ClassId) (a : Nat → Nat) (sz : Nat) (J : Nat → Int64) (I : Nat → Int32) (R : Nat → Nat → Int32) (RJ : Nat → Nat → Int64)  (hM : MI I R) : Met l yX10_rank wsX10_rank ({ frames := 5, cells := 0, slots := 0, locals := 114 }) (va_Pc [.ref (a 0)] (PW D cy sz (MW cy a J I R RJ))) (va_Qi (fun r (u : MS) => ∃ (w0 : Int64), ∃ (w1 : Int64), ∃ (w2 : Int64), ∃ (w3 : Int32), ∃ (w4 : Nat → Int32), (True) ∧ u = ((va_up (va_up (va_up J 19 w0) 20 w1) 21 w2), (va_up I 13 w3), (va_up R 12 w4), RJ)) (BW D (va_A (MW cy a J I R RJ) sz) (MWu cy a)) (va_A (MW cy a J I R RJ) sz)) 0 0 (va_A (MW cy a J I R RJ) sz) := by
  refine Met.ofW (cc := cX10_rank) (maxL := 1) (ret := (some .int)) (by decide) rfl ?_
  intro p e s m args below meth c s₁ B hml hv
  obtain ⟨rfl, rfl, hP, hK, hN, hD0⟩ := hv
  have hx := B.exec
  have hb := B.bytes
  have hr := B.returns
  have hts := atoms_spec (ws := wsX10_rank) B.pre
  have hown : s.vm.findClass RX10 = some m.cls := findClass_of_methodNamed B.named
  have hlocks := B.notSynchronized
  have hw0 := hts (.fieldLink RX10 88 "ParquetLayerModel" "isLaid" "Z") (by decide +kernel)
  have hw1 := hts (.constant RX10 98 (-100006)) (by decide +kernel)
  have hi10 := ihX10_rank_10
  have hD := hD0.self (sz := s.heap.size)
  generalize hAe : va_A (MW cy a J I R RJ) s.heap.size = A at hD ⊢
  have hA : ∀ q : Nat, s.heap.size ≤ q → A q := fun q h => by rw [← hAe]; exact Or.inr h
  have hS : va_S A s.heap s.heap [] := va_S.rf
  have hl := lv_entry ([.ref (a 0)]) (n := 1) (Nat.le_of_ble_eq_true rfl)
  rw [lg_entry_eq]
  generalize (lg_sl ([.ref (a 0)]) ++ List.replicate (1 - (lg_sl ([.ref (a 0)])).length) Slot.unset).toArray = ls at hl ⊢
  have hl : lv_has ls 1 [(0, .ref (a 0))] := hl
  have hP : va_P D vwCl (MW cy a (va_up (va_up (va_up J 19 (J 19)) 20 (J 20)) 21 (J 21)) (va_up I 13 (I 13)) (va_up R 12 (R 12)) RJ) s.heap := hP
  have hD : va_D A (MW cy a (va_up (va_up (va_up J 19 (J 19)) 20 (J 20)) 21 (J 21)) (va_up I 13 (I 13)) (va_up R 12 (R 12)) RJ) := hD
  refine lv_aload_n hx hb dX10_rank_0 rfl (lv_at hl 0 rfl) ?_
  refine va_get (D := D) (ci := 9) (v := .int (I 3)) (C := RX10) (T := TX10) (N := 30) hx hb hts hi10 hown hK hP 0 rfl rfl 3 (by decide) hw0 (fun _ h9 => h9) rfl dX10_rank_1 ?_
  refine lv_if_eq (tgt := 14) hx hb dX10_rank_4 (by decide) (fun c_1 => ?_) (fun c_1 => ?_)
  · refine lv_aload_n hx hb dX10_rank_14 rfl (lv_at hl 0 rfl) ?_
    refine lv_ldc (v := (-100006)) hx hb hown hw1 dX10_rank_15 ?_
    refine kM_i (As := [.int (-100006)]) (rest := []) (q0 := 0) ⟨hx, hb, hml, hown, hts⟩ (c_X10_finding l D cy a _ (va_up (va_up (va_up J 19 (J 19)) 20 (J 20)) 21 (J 21)) (va_up I 13 (I 13)) (va_up R 12 (R 12)) RJ (-100006) ) (cwV 1 hts gX10_rank_X10_finding rfl rfl rfl (by decide +kernel) ⟨Nat.le_of_ble_eq_true rfl, Nat.le_of_ble_eq_true rfl⟩) hK hN hP hD hS hA rfl rfl rfl hl.1 rfl (Nat.le_of_ble_eq_true rfl) dX10_rank_17 ⟨Nat.le_of_ble_eq_true rfl, Nat.le_of_ble_eq_true rfl⟩ (fun r_2 u H locs hw hP hD hS => ?_)
    obtain ⟨rfl, rfl⟩ := hw
    have hP : va_P D vwCl (MW cy a (va_up (va_up (va_up J 19 (J 19)) 20 (J 20)) 21 (J 21)) (va_up I 13 ((I 13) + 1)) (va_up R 12 (R 12)) RJ) H := hP
    have hD : va_D A (MW cy a (va_up (va_up (va_up J 19 (J 19)) 20 (J 20)) 21 (J 21)) (va_up I 13 ((I 13) + 1)) (va_up R 12 (R 12)) RJ) := hD
    exact wret_i hx hb hr hlocks ((va_up (va_up (va_up J 19 (J 19)) 20 (J 20)) 21 (J 21)), (va_up I 13 ((I 13) + 1)), (va_up R 12 (R 12)), RJ) ⟨(J 19), (J 20), (J 21), ((I 13) + 1), (R 12), trivial, rfl⟩ hP hD hS dX10_rank_20
  · refine lv_aload_n hx hb dX10_rank_7 rfl (lv_at hl 0 rfl) ?_
    refine kM_i (As := []) (rest := []) (q0 := 0) ⟨hx, hb, hml, hown, hts⟩ (t_X10_rankNow l D cy a _ (va_up (va_up (va_up J 19 (J 19)) 20 (J 20)) 21 (J 21)) (va_up I 13 (I 13)) (va_up R 12 (R 12)) RJ   ⟨hM.1, hM.2.1, hM.2.2.1, hM.2.2.2.1, hM.2.2.2.2.1, hM.2.2.2.2.2⟩) (cwV 0 hts gX10_rank_X10_rankNow rfl rfl rfl (by decide +kernel) ⟨Nat.le_of_ble_eq_true rfl, Nat.le_of_ble_eq_true rfl⟩) hK hN hP hD hS hA rfl rfl rfl hl.1 rfl (Nat.le_of_ble_eq_true rfl) dX10_rank_8 ⟨Nat.le_of_ble_eq_true rfl, Nat.le_of_ble_eq_true rfl⟩ (fun r_3 u H locs hw hP hD hS => ?_)
    obtain ⟨w_4, w_5, w_6, w_7, -, rfl⟩ := hw
    have hP : va_P D vwCl (MW cy a (va_up (va_up (va_up J 19 w_4) 20 w_5) 21 w_6) (va_up I 13 (I 13)) (va_up R 12 w_7) RJ) H := hP
    have hD : va_D A (MW cy a (va_up (va_up (va_up J 19 w_4) 20 w_5) 21 w_6) (va_up I 13 (I 13)) (va_up R 12 w_7) RJ) := hD
    refine lv_goto (tgt := 20) hx hb dX10_rank_11 (by decide) ?_
    exact wret_i hx hb hr hlocks ((va_up (va_up (va_up J 19 w_4) 20 w_5) 21 w_6), (va_up I 13 (I 13)), (va_up R 12 w_7), RJ) ⟨w_4, w_5, w_6, (I 13), w_7, trivial, rfl⟩ hP hD hS dX10_rank_20
theorem dX10_next_0 : decode cX10_next 0 = .ok (.aload_n 0, 1) := by decide +kernel
theorem dX10_next_1 : decode cX10_next 1 = .ok (.getfield 88, 3) := by decide +kernel
theorem dX10_next_4 : decode cX10_next 4 = .ok (.ifCond .ne 10, 3) := by decide +kernel
theorem dX10_next_14 : decode cX10_next 14 = .ok (.aload_n 0, 1) := by decide +kernel
set_option maxRecDepth 20000 in
theorem ggX10_next_X10_rankNow : GoodIn wsX10_next wsX10_rankNow := goodIn_r _ [12, 13, 14, 15, 16, 17, 6, 18, 19, 20, 21, 22, 23, 24, 25, 26, 27, 28, 29, 30, 31, 32, 33, 34, 35, 36, 37, 38, 39, 40, 41, 42, 43, 44, 45, 46, 47, 48, 49, 50, 51, 52, 53, 54, 55, 56, 57, 58, 59, 60, 61, 62, 63, 64, 65, 66, 67, 68, 69, 70, 71, 72, 73, 84, 85, 86, 87, 88, 89, 90, 91, 92, 93, 94, 95, 96, 97, 98, 99, 100, 101, 102, 103, 104, 105, 106, 107, 108, 109, 110, 111, 112, 113] rfl (by decide +kernel)
set_option maxRecDepth 20000 in
theorem gX10_next_X10_rankNow : GoodIn wsX10_next (wsV RX10 227 RX10 yX10_rankNow wsX10_rankNow) := goodIn_app (goodIn_r _ [9, 10, 11, 6] rfl (by decide +kernel)) ggX10_next_X10_rankNow
theorem dX10_next_15 : decode cX10_next 15 = .ok (.invokevirtual 227, 3) := by decide +kernel
theorem dX10_next_18 : decode cX10_next 18 = .ok (.iconst 1, 1) := by decide +kernel
theorem dX10_next_19 : decode cX10_next 19 = .ok (.iadd, 1) := by decide +kernel
theorem dX10_next_20 : decode cX10_next 20 = .ok (.istore_n 1, 1) := by decide +kernel
theorem dX10_next_21 : decode cX10_next 21 = .ok (.iload_n 1, 1) := by decide +kernel
theorem dX10_next_22 : decode cX10_next 22 = .ok (.aload_n 0, 1) := by decide +kernel
theorem dX10_next_23 : decode cX10_next 23 = .ok (.iconst 0, 1) := by decide +kernel
theorem dX10_next_24 : decode cX10_next 24 = .ok (.iconst 0, 1) := by decide +kernel
set_option maxRecDepth 20000 in
theorem ggX10_next_X10_waysAt : GoodIn wsX10_next wsX10_waysAt := goodIn_r _ [69, 56, 84, 85, 86, 87, 88, 89, 90, 91, 92, 93, 94, 95, 96, 97, 98, 99, 100, 101, 102, 103, 104, 105, 106, 107, 108, 109, 110, 111, 112, 113] rfl (by decide +kernel)
set_option maxRecDepth 20000 in
theorem gX10_next_X10_waysAt : GoodIn wsX10_next (wsV RX10 197 RX10 yX10_waysAt wsX10_waysAt) := goodIn_app (goodIn_r _ [66, 67, 68, 6] rfl (by decide +kernel)) ggX10_next_X10_waysAt
theorem dX10_next_25 : decode cX10_next 25 = .ok (.invokevirtual 197, 3) := by decide +kernel
theorem dX10_next_28 : decode cX10_next 28 = .ok (.if_icmp .ne 10, 3) := by decide +kernel
theorem dX10_next_38 : decode cX10_next 38 = .ok (.aload_n 0, 1) := by decide +kernel
theorem dX10_next_39 : decode cX10_next 39 = .ok (.iload_n 1, 1) := by decide +kernel
set_option maxRecDepth 20000 in
theorem ggX10_next_X10_take : GoodIn wsX10_next wsX10_take := goodIn_r _ [77, 78, 13, 79, 14, 1, 80, 81, 82, 6, 83, 57, 58, 59, 60, 61, 62, 63, 64, 65, 25, 24, 23, 48, 49, 50, 51, 66, 67, 68, 69, 56, 84, 85, 86, 87, 88, 89, 90, 91, 92, 93, 94, 95, 96, 97, 98, 99, 100, 101, 102, 103, 104, 105, 106, 107, 108, 109, 110, 111, 112, 113] rfl (by decide +kernel)
set_option maxRecDepth 20000 in
theorem gX10_next_X10_take : GoodIn wsX10_next (wsV RX10 220 RX10 yX10_take wsX10_take) := goodIn_app (goodIn_r _ [74, 75, 76, 6] rfl (by decide +kernel)) ggX10_next_X10_take
theorem dX10_next_40 : decode cX10_next 40 = .ok (.invokevirtual 220, 3) := by decide +kernel
theorem dX10_next_43 : decode cX10_next 43 = .ok (.iload_n 1, 1) := by decide +kernel
theorem dX10_next_44 : decode cX10_next 44 = .ok (.ireturn, 1) := by decide +kernel
theorem dX10_next_31 : decode cX10_next 31 = .ok (.aload_n 0, 1) := by decide +kernel
theorem dX10_next_32 : decode cX10_next 32 = .ok (.ldc 98, 2) := by decide +kernel
set_option maxRecDepth 20000 in
theorem ggX10_next_X10_finding : GoodIn wsX10_next wsX10_finding := goodIn_r _ [7, 8, 84, 85, 86, 87, 88, 89, 90, 91, 92, 93, 94, 95, 96, 97, 98, 99, 100, 101, 102, 103, 104, 105, 106, 107, 108, 109, 110, 111, 112, 113] rfl (by decide +kernel)
set_option maxRecDepth 20000 in
theorem gX10_next_X10_finding : GoodIn wsX10_next (wsV RX10 99 RX10 yX10_finding wsX10_finding) := goodIn_app (goodIn_r _ [3, 4, 5, 6] rfl (by decide +kernel)) ggX10_next_X10_finding
theorem dX10_next_34 : decode cX10_next 34 = .ok (.invokevirtual 99, 3) := by decide +kernel
theorem dX10_next_37 : decode cX10_next 37 = .ok (.ireturn, 1) := by decide +kernel
theorem dX10_next_7 : decode cX10_next 7 = .ok (.aload_n 0, 1) := by decide +kernel
theorem dX10_next_8 : decode cX10_next 8 = .ok (.ldc 98, 2) := by decide +kernel
theorem dX10_next_10 : decode cX10_next 10 = .ok (.invokevirtual 99, 3) := by decide +kernel
theorem dX10_next_13 : decode cX10_next 13 = .ok (.ireturn, 1) := by decide +kernel
set_option maxRecDepth 20000 in
theorem ihX10_next_10 : ∀ w ∈ u_ws RX10 TX10 30, w ∈ wsX10_next := fun _ h => List.mem_cons_of_mem _ (List.mem_append_right _ h)
set_option maxHeartbeats 4000000 in
set_option maxRecDepth 100000 in
theorem t_X10_next (l : Launch) (D : va_G) (cy : Nat → ClassId) (a : Nat → Nat) (sz : Nat) (J : Nat → Int64) (I : Nat → Int32) (R : Nat → Nat → Int32) (RJ : Nat → Nat → Int64)  (hM : MI I R) : Met l yX10_next wsX10_next ({ frames := 5, cells := 0, slots := 0, locals := 114 }) (va_Pc [.ref (a 0)] (PW D cy sz (MW cy a J I R RJ))) (va_Qi (fun r (u : MS) => ∃ (w0 : Int64), ∃ (w1 : Int64), ∃ (w2 : Int64), ∃ (w3 : Int64), ∃ (w4 : Int64), ∃ (w5 : Int64), ∃ (w6 : Int64), ∃ (w7 : Int32), ∃ (w8 : Int32), ∃ (w9 : Nat → Int32), ((isB w7)) ∧ u = ((va_up (va_up (va_up (va_up (va_up (va_up (va_up J 4 w0) 5 w1) 19 w2) 20 w3) 21 w4) 22 w5) 23 w6), (va_up (va_up I 3 w7) 13 w8), (va_up R 12 w9), RJ)) (BW D (va_A (MW cy a J I R RJ) sz) (MWu cy a)) (va_A (MW cy a J I R RJ) sz)) 0 0 (va_A (MW cy a J I R RJ) sz) := by
  refine Met.ofW (cc := cX10_next) (maxL := 2) (ret := (some .int)) (by decide) rfl ?_
  intro p e s m args below meth c s₁ B hml hv
  obtain ⟨rfl, rfl, hP, hK, hN, hD0⟩ := hv
  have hx := B.exec
  have hb := B.bytes
  have hr := B.returns
  have hts := atoms_spec (ws := wsX10_next) B.pre
  have hown : s.vm.findClass RX10 = some m.cls := findClass_of_methodNamed B.named
  have hlocks := B.notSynchronized
  have hw0 := hts (.fieldLink RX10 88 "ParquetLayerModel" "isLaid" "Z") (by decide +kernel)
  have hw1 := hts (.constant RX10 98 (-100006)) (by decide +kernel)
  have hi10 := ihX10_next_10
  have hD := hD0.self (sz := s.heap.size)
  generalize hAe : va_A (MW cy a J I R RJ) s.heap.size = A at hD ⊢
  have hA : ∀ q : Nat, s.heap.size ≤ q → A q := fun q h => by rw [← hAe]; exact Or.inr h
  have hS : va_S A s.heap s.heap [] := va_S.rf
  have hl := lv_entry ([.ref (a 0)]) (n := 2) (Nat.le_of_ble_eq_true rfl)
  rw [lg_entry_eq]
  generalize (lg_sl ([.ref (a 0)]) ++ List.replicate (2 - (lg_sl ([.ref (a 0)])).length) Slot.unset).toArray = ls at hl ⊢
  have hl : lv_has ls 2 [(0, .ref (a 0))] := hl
  have hP : va_P D vwCl (MW cy a (va_up (va_up (va_up (va_up (va_up (va_up (va_up J 4 (J 4)) 5 (J 5)) 19 (J 19)) 20 (J 20)) 21 (J 21)) 22 (J 22)) 23 (J 23)) (va_up (va_up I 3 (I 3)) 13 (I 13)) (va_up R 12 (R 12)) RJ) s.heap := hP
  have hD : va_D A (MW cy a (va_up (va_up (va_up (va_up (va_up (va_up (va_up J 4 (J 4)) 5 (J 5)) 19 (J 19)) 20 (J 20)) 21 (J 21)) 22 (J 22)) 23 (J 23)) (va_up (va_up I 3 (I 3)) 13 (I 13)) (va_up R 12 (R 12)) RJ) := hD
  refine lv_aload_n hx hb dX10_next_0 rfl (lv_at hl 0 rfl) ?_
  refine va_get (D := D) (ci := 9) (v := .int (I 3)) (C := RX10) (T := TX10) (N := 30) hx hb hts hi10 hown hK hP 0 rfl rfl 3 (by decide) hw0 (fun _ h9 => h9) rfl dX10_next_1 ?_
  refine lv_if_ne (tgt := 14) hx hb dX10_next_4 (by decide) (fun c_1 => ?_) (fun c_1 => ?_)
  · refine lv_aload_n hx hb dX10_next_14 rfl (lv_at hl 0 rfl) ?_
    refine kM_i (As := []) (rest := []) (q0 := 0) ⟨hx, hb, hml, hown, hts⟩ (t_X10_rankNow l D cy a _ (va_up (va_up (va_up (va_up (va_up (va_up (va_up J 4 (J 4)) 5 (J 5)) 19 (J 19)) 20 (J 20)) 21 (J 21)) 22 (J 22)) 23 (J 23)) (va_up (va_up I 3 (I 3)) 13 (I 13)) (va_up R 12 (R 12)) RJ   ⟨hM.1, hM.2.1, hM.2.2.1, hM.2.2.2.1, hM.2.2.2.2.1, hM.2.2.2.2.2⟩) (cwV 0 hts gX10_next_X10_rankNow rfl rfl rfl (by decide +kernel) ⟨Nat.le_of_ble_eq_true rfl, Nat.le_of_ble_eq_true rfl⟩) hK hN hP hD hS hA rfl rfl rfl hl.1 rfl (Nat.le_of_ble_eq_true rfl) dX10_next_15 ⟨Nat.le_of_ble_eq_true rfl, Nat.le_of_ble_eq_true rfl⟩ (fun r_2 u H locs hw hP hD hS => ?_)
    obtain ⟨w_3, w_4, w_5, w_6, -, rfl⟩ := hw
    have hP : va_P D vwCl (MW cy a (va_up (va_up (va_up (va_up (va_up (va_up (va_up J 4 (J 4)) 5 (J 5)) 19 w_3) 20 w_4) 21 w_5) 22 (J 22)) 23 (J 23)) (va_up (va_up I 3 (I 3)) 13 (I 13)) (va_up R 12 w_6) RJ) H := hP
    have hD : va_D A (MW cy a (va_up (va_up (va_up (va_up (va_up (va_up (va_up J 4 (J 4)) 5 (J 5)) 19 w_3) 20 w_4) 21 w_5) 22 (J 22)) 23 (J 23)) (va_up (va_up I 3 (I 3)) 13 (I 13)) (va_up R 12 w_6) RJ) := hD
    refine lv_iconst (v := 1) hx hb dX10_next_18 (by decide) ?_
    refine lv_iadd hx hb dX10_next_19 ?_
    refine lv_istore_n (lv' := [(1, .int (r_2 + 1)), (0, .ref (a 0))]) hx hb dX10_next_20 rfl hl (by decide) rfl (fun ls hl => ?_)
    refine lv_iload_n hx hb dX10_next_21 rfl (lv_at hl 0 rfl) ?_
    refine lv_aload_n hx hb dX10_next_22 rfl (lv_at hl 1 rfl) ?_
    refine lv_iconst (v := 0) hx hb dX10_next_23 (by decide) ?_
    refine lv_iconst (v := 0) hx hb dX10_next_24 (by decide) ?_
    refine kR_i (As := [.int 0, .int 0]) (rest := [.int (r_2 + 1)]) (q0 := 0) ⟨hx, hb, hml, hown, hts⟩ (c_X10_waysAt l D cy a _ (va_up (va_up (va_up (va_up (va_up (va_up (va_up J 4 (J 4)) 5 (J 5)) 19 w_3) 20 w_4) 21 w_5) 22 (J 22)) 23 (J 23)) (va_up (va_up I 3 (I 3)) 13 (I 13)) (va_up R 12 w_6) RJ 0 0 (by unfold vp_in; decide)) (cwV 2 hts gX10_next_X10_waysAt rfl rfl rfl (by decide +kernel) ⟨Nat.le_of_ble_eq_true rfl, Nat.le_of_ble_eq_true rfl⟩) hK hN hP hD rfl rfl rfl hl.1 rfl (Nat.le_of_ble_eq_true rfl) dX10_next_25 ⟨Nat.le_of_ble_eq_true rfl, Nat.le_of_ble_eq_true rfl⟩ ?_
    refine lv_icmp_ne (tgt := 38) hx hb dX10_next_28 (by decide) (fun c_7 => ?_) (fun c_7 => ?_)
    · refine lv_aload_n hx hb dX10_next_38 rfl (lv_at hl 1 rfl) ?_
      refine lv_iload_n hx hb dX10_next_39 rfl (lv_at hl 0 rfl) ?_
      refine kM_v (As := [.int (r_2 + 1)]) (rest := []) (q0 := 0) ⟨hx, hb, hml, hown, hts⟩ (t_X10_take l D cy a _ (va_up (va_up (va_up (va_up (va_up (va_up (va_up J 4 (J 4)) 5 (J 5)) 19 w_3) 20 w_4) 21 w_5) 22 (J 22)) 23 (J 23)) (va_up (va_up I 3 (I 3)) 13 (I 13)) (va_up R 12 w_6) RJ (r_2 + 1)  ⟨hM.1, hM.2.1, hM.2.2.1, hM.2.2.2.1, hM.2.2.2.2.1, hM.2.2.2.2.2⟩) (cwV 1 hts gX10_next_X10_take rfl rfl rfl (by decide +kernel) ⟨Nat.le_of_ble_eq_true rfl, Nat.le_of_ble_eq_true rfl⟩) hK hN hP hD hS hA rfl rfl rfl hl.1 rfl (Nat.le_of_ble_eq_true rfl) dX10_next_40 ⟨Nat.le_of_ble_eq_true rfl, Nat.le_of_ble_eq_true rfl⟩ (fun u H locs hw hP hD hS => ?_)
      obtain ⟨w_9, w_10, w_11, w_12, w_13, hi_14, rfl⟩ := hw
      have hP : va_P D vwCl (MW cy a (va_up (va_up (va_up (va_up (va_up (va_up (va_up J 4 w_9) 5 w_10) 19 w_3) 20 w_4) 21 w_5) 22 w_11) 23 w_12) (va_up (va_up I 3 w_13) 13 (I 13)) (va_up R 12 w_6) RJ) H := hP
      have hD : va_D A (MW cy a (va_up (va_up (va_up (va_up (va_up (va_up (va_up J 4 w_9) 5 w_10) 19 w_3) 20 w_4) 21 w_5) 22 w_11) 23 w_12) (va_up (va_up I 3 w_13) 13 (I 13)) (va_up R 12 w_6) RJ) := hD
      refine lv_iload_n hx hb dX10_next_43 rfl (lv_at hl 0 rfl) ?_
      exact wret_i hx hb hr hlocks ((va_up (va_up (va_up (va_up (va_up (va_up (va_up J 4 w_9) 5 w_10) 19 w_3) 20 w_4) 21 w_5) 22 w_11) 23 w_12), (va_up (va_up I 3 w_13) 13 (I 13)), (va_up R 12 w_6), RJ) ⟨w_9, w_10, w_3, w_4, w_5, w_11, w_12, w_13, (I 13), w_6, hi_14, rfl⟩ hP hD hS dX10_next_44
    · refine lv_aload_n hx hb dX10_next_31 rfl (lv_at hl 1 rfl) ?_
      refine lv_ldc (v := (-100006)) hx hb hown hw1 dX10_next_32 ?_
      refine kM_i (As := [.int (-100006)]) (rest := []) (q0 := 0) ⟨hx, hb, hml, hown, hts⟩ (c_X10_finding l D cy a _ (va_up (va_up (va_up (va_up (va_up (va_up (va_up J 4 (J 4)) 5 (J 5)) 19 w_3) 20 w_4) 21 w_5) 22 (J 22)) 23 (J 23)) (va_up (va_up I 3 (I 3)) 13 (I 13)) (va_up R 12 w_6) RJ (-100006) ) (cwV 1 hts gX10_next_X10_finding rfl rfl rfl (by decide +kernel) ⟨Nat.le_of_ble_eq_true rfl, Nat.le_of_ble_eq_true rfl⟩) hK hN hP hD hS hA rfl rfl rfl hl.1 rfl (Nat.le_of_ble_eq_true rfl) dX10_next_34 ⟨Nat.le_of_ble_eq_true rfl, Nat.le_of_ble_eq_true rfl⟩ (fun r_15 u H locs hw hP hD hS => ?_)
      obtain ⟨rfl, rfl⟩ := hw
      have hP : va_P D vwCl (MW cy a (va_up (va_up (va_up (va_up (va_up (va_up (va_up J 4 (J 4)) 5 (J 5)) 19 w_3) 20 w_4) 21 w_5) 22 (J 22)) 23 (J 23)) (va_up (va_up I 3 (I 3)) 13 ((I 13) + 1)) (va_up R 12 w_6) RJ) H := hP
      have hD : va_D A (MW cy a (va_up (va_up (va_up (va_up (va_up (va_up (va_up J 4 (J 4)) 5 (J 5)) 19 w_3) 20 w_4) 21 w_5) 22 (J 22)) 23 (J 23)) (va_up (va_up I 3 (I 3)) 13 ((I 13) + 1)) (va_up R 12 w_6) RJ) := hD
      exact wret_i hx hb hr hlocks ((va_up (va_up (va_up (va_up (va_up (va_up (va_up J 4 (J 4)) 5 (J 5)) 19 w_3) 20 w_4) 21 w_5) 22 (J 22)) 23 (J 23)), (va_up (va_up I 3 (I 3)) 13 ((I 13) + 1)), (va_up R 12 w_6), RJ) ⟨(J 4), (J 5), w_3, w_4, w_5, (J 22), (J 23), (I 3), ((I 13) + 1), w_6, hM.2.1, rfl⟩ hP hD hS dX10_next_37
  · refine lv_aload_n hx hb dX10_next_7 rfl (lv_at hl 0 rfl) ?_
    refine lv_ldc (v := (-100006)) hx hb hown hw1 dX10_next_8 ?_
    refine kM_i (As := [.int (-100006)]) (rest := []) (q0 := 0) ⟨hx, hb, hml, hown, hts⟩ (c_X10_finding l D cy a _ (va_up (va_up (va_up (va_up (va_up (va_up (va_up J 4 (J 4)) 5 (J 5)) 19 (J 19)) 20 (J 20)) 21 (J 21)) 22 (J 22)) 23 (J 23)) (va_up (va_up I 3 (I 3)) 13 (I 13)) (va_up R 12 (R 12)) RJ (-100006) ) (cwV 1 hts gX10_next_X10_finding rfl rfl rfl (by decide +kernel) ⟨Nat.le_of_ble_eq_true rfl, Nat.le_of_ble_eq_true rfl⟩) hK hN hP hD hS hA rfl rfl rfl hl.1 rfl (Nat.le_of_ble_eq_true rfl) dX10_next_10 ⟨Nat.le_of_ble_eq_true rfl, Nat.le_of_ble_eq_true rfl⟩ (fun r_16 u H locs hw hP hD hS => ?_)
    obtain ⟨rfl, rfl⟩ := hw
    have hP : va_P D vwCl (MW cy a (va_up (va_up (va_up (va_up (va_up (va_up (va_up J 4 (J 4)) 5 (J 5)) 19 (J 19)) 20 (J 20)) 21 (J 21)) 22 (J 22)) 23 (J 23)) (va_up (va_up I 3 (I 3)) 13 ((I 13) + 1)) (va_up R 12 (R 12)) RJ) H := hP
    have hD : va_D A (MW cy a (va_up (va_up (va_up (va_up (va_up (va_up (va_up J 4 (J 4)) 5 (J 5)) 19 (J 19)) 20 (J 20)) 21 (J 21)) 22 (J 22)) 23 (J 23)) (va_up (va_up I 3 (I 3)) 13 ((I 13) + 1)) (va_up R 12 (R 12)) RJ) := hD
    exact wret_i hx hb hr hlocks ((va_up (va_up (va_up (va_up (va_up (va_up (va_up J 4 (J 4)) 5 (J 5)) 19 (J 19)) 20 (J 20)) 21 (J 21)) 22 (J 22)) 23 (J 23)), (va_up (va_up I 3 (I 3)) 13 ((I 13) + 1)), (va_up R 12 (R 12)), RJ) ⟨(J 4), (J 5), (J 19), (J 20), (J 21), (J 22), (J 23), (I 3), ((I 13) + 1), (R 12), hM.2.1, rfl⟩ hP hD hS dX10_next_13
theorem dX10_turn_0 : decode cX10_turn 0 = .ok (.iload_n 1, 1) := by decide +kernel
set_option maxRecDepth 20000 in
theorem ggX10_turn_X10_isField : GoodIn wsX10_turn wsX10_isField := goodIn_r _ [9, 10, 11, 8, 12] rfl (by decide +kernel)
set_option maxRecDepth 20000 in
theorem gX10_turn_X10_isField : GoodIn wsX10_turn (va_wsS RX10 147 yX10_isField wsX10_isField) := goodIn_app (goodIn_r _ [6, 7, 8] rfl (by decide +kernel)) ggX10_turn_X10_isField
theorem dX10_turn_1 : decode cX10_turn 1 = .ok (.invokestatic 147, 3) := by decide +kernel
theorem dX10_turn_4 : decode cX10_turn 4 = .ok (.ifCond .eq 21, 3) := by decide +kernel
theorem dX10_turn_25 : decode cX10_turn 25 = .ok (.aload_n 0, 1) := by decide +kernel
theorem dX10_turn_26 : decode cX10_turn 26 = .ok (.ldc 141, 2) := by decide +kernel
set_option maxRecDepth 20000 in
theorem ggX10_turn_X10_finding : GoodIn wsX10_turn wsX10_finding := goodIn_r _ [16, 17, 91, 92, 93, 94, 95, 96, 97, 98, 99, 100, 101, 102, 103, 104, 105, 106, 107, 108, 109, 110, 111, 112, 113, 114, 115, 116, 117, 118, 119, 120] rfl (by decide +kernel)
set_option maxRecDepth 20000 in
theorem gX10_turn_X10_finding : GoodIn wsX10_turn (wsV RX10 99 RX10 yX10_finding wsX10_finding) := goodIn_app (goodIn_r _ [13, 14, 15, 8] rfl (by decide +kernel)) ggX10_turn_X10_finding
theorem dX10_turn_28 : decode cX10_turn 28 = .ok (.invokevirtual 99, 3) := by decide +kernel
theorem dX10_turn_31 : decode cX10_turn 31 = .ok (.ireturn, 1) := by decide +kernel
theorem dX10_turn_7 : decode cX10_turn 7 = .ok (.iload_n 1, 1) := by decide +kernel
theorem dX10_turn_8 : decode cX10_turn 8 = .ok (.bipush 8, 2) := by decide +kernel
theorem dX10_turn_10 : decode cX10_turn 10 = .ok (.irem, 1) := by decide +kernel
theorem dX10_turn_11 : decode cX10_turn 11 = .ok (.bipush 6, 2) := by decide +kernel
theorem dX10_turn_13 : decode cX10_turn 13 = .ok (.if_icmp .gt 12, 3) := by decide +kernel
theorem dX10_turn_16 : decode cX10_turn 16 = .ok (.iload_n 1, 1) := by decide +kernel
theorem dX10_turn_17 : decode cX10_turn 17 = .ok (.bipush 8, 2) := by decide +kernel
theorem dX10_turn_19 : decode cX10_turn 19 = .ok (.idiv, 1) := by decide +kernel
theorem dX10_turn_20 : decode cX10_turn 20 = .ok (.bipush 6, 2) := by decide +kernel
theorem dX10_turn_22 : decode cX10_turn 22 = .ok (.if_icmp .le 10, 3) := by decide +kernel
theorem dX10_turn_32 : decode cX10_turn 32 = .ok (.aload_n 0, 1) := by decide +kernel
set_option maxRecDepth 20000 in
theorem ggX10_turn_X10_findGlued : GoodIn wsX10_turn wsX10_findGlued := goodIn_r _ [21, 22, 23, 24, 25, 26, 27, 28, 8, 29, 30, 31, 32, 33, 34, 35, 36, 37, 38, 39, 40, 41, 42, 43, 44, 45, 46, 47, 48, 49, 50, 91, 92, 93, 94, 95, 96, 97, 98, 99, 100, 101, 102, 103, 104, 105, 106, 107, 108, 109, 110, 111, 112, 113, 114, 115, 116, 117, 118, 119, 120] rfl (by decide +kernel)
set_option maxRecDepth 20000 in
theorem gX10_turn_X10_findGlued : GoodIn wsX10_turn (wsV RX10 201 RX10 yX10_findGlued wsX10_findGlued) := goodIn_app (goodIn_r _ [18, 19, 20, 8] rfl (by decide +kernel)) ggX10_turn_X10_findGlued
theorem dX10_turn_33 : decode cX10_turn 33 = .ok (.invokevirtual 201, 3) := by decide +kernel
theorem dX10_turn_36 : decode cX10_turn 36 = .ok (.aload_n 0, 1) := by decide +kernel
theorem dX10_turn_37 : decode cX10_turn 37 = .ok (.getfield 88, 3) := by decide +kernel
theorem dX10_turn_40 : decode cX10_turn 40 = .ok (.ifCond .eq 19, 3) := by decide +kernel
theorem dX10_turn_59 : decode cX10_turn 59 = .ok (.iconst 0, 1) := by decide +kernel
theorem dX10_turn_60 : decode cX10_turn 60 = .ok (.istore_n 2, 1) := by decide +kernel
theorem dX10_turn_61 : decode cX10_turn 61 = .ok (.iload_n 2, 1) := by decide +kernel
theorem dX10_turn_62 : decode cX10_turn 62 = .ok (.ifCond .ne 10, 3) := by decide +kernel
theorem dX10_turn_65 : decode cX10_turn 65 = .ok (.aload_n 0, 1) := by decide +kernel
theorem dX10_turn_66 : decode cX10_turn 66 = .ok (.ldc 98, 2) := by decide +kernel
theorem dX10_turn_68 : decode cX10_turn 68 = .ok (.invokevirtual 99, 3) := by decide +kernel
theorem dX10_turn_71 : decode cX10_turn 71 = .ok (.ireturn, 1) := by decide +kernel
theorem dX10_turn_43 : decode cX10_turn 43 = .ok (.aload_n 0, 1) := by decide +kernel
theorem dX10_turn_44 : decode cX10_turn 44 = .ok (.aload_n 0, 1) := by decide +kernel
theorem dX10_turn_45 : decode cX10_turn 45 = .ok (.getfield 92, 3) := by decide +kernel
theorem dX10_turn_48 : decode cX10_turn 48 = .ok (.aload_n 0, 1) := by decide +kernel
theorem dX10_turn_49 : decode cX10_turn 49 = .ok (.getfield 95, 3) := by decide +kernel
theorem dX10_turn_52 : decode cX10_turn 52 = .ok (.iload_n 1, 1) := by decide +kernel
set_option maxRecDepth 20000 in
theorem ggX10_turn_X10_turnAt : GoodIn wsX10_turn wsX10_turnAt := goodIn_r _ [54, 22, 23, 55, 56, 8, 57, 91, 92, 93, 94, 95, 96, 97, 98, 99, 100, 101, 102, 103, 104, 105, 106, 107, 108, 109, 110, 111, 112, 113, 114, 115, 116, 117, 118, 119, 120] rfl (by decide +kernel)
set_option maxRecDepth 20000 in
theorem gX10_turn_X10_turnAt : GoodIn wsX10_turn (wsV RX10 231 RX10 yX10_turnAt wsX10_turnAt) := goodIn_app (goodIn_r _ [51, 52, 53, 8] rfl (by decide +kernel)) ggX10_turn_X10_turnAt
theorem dX10_turn_53 : decode cX10_turn 53 = .ok (.invokevirtual 231, 3) := by decide +kernel
theorem dX10_turn_56 : decode cX10_turn 56 = .ok (.goto 4, 3) := by decide +kernel
theorem dX10_turn_72 : decode cX10_turn 72 = .ok (.aload_n 0, 1) := by decide +kernel
theorem dX10_turn_73 : decode cX10_turn 73 = .ok (.dup, 1) := by decide +kernel
theorem dX10_turn_74 : decode cX10_turn 74 = .ok (.getfield 92, 3) := by decide +kernel
theorem dX10_turn_77 : decode cX10_turn 77 = .ok (.iload_n 1, 1) := by decide +kernel
set_option maxRecDepth 20000 in
theorem ggX10_turn_X10_alongAt : GoodIn wsX10_turn wsX10_alongAt := goodIn_r _ [60] rfl (by decide +kernel)
set_option maxRecDepth 20000 in
theorem gX10_turn_X10_alongAt : GoodIn wsX10_turn (va_wsS RX10 235 yX10_alongAt wsX10_alongAt) := goodIn_app (goodIn_r _ [58, 59, 8] rfl (by decide +kernel)) ggX10_turn_X10_alongAt
theorem dX10_turn_78 : decode cX10_turn 78 = .ok (.invokestatic 235, 3) := by decide +kernel
theorem dX10_turn_81 : decode cX10_turn 81 = .ok (.lxor, 1) := by decide +kernel
theorem dX10_turn_82 : decode cX10_turn 82 = .ok (.putfield 92, 3) := by decide +kernel
theorem dX10_turn_85 : decode cX10_turn 85 = .ok (.aload_n 0, 1) := by decide +kernel
theorem dX10_turn_86 : decode cX10_turn 86 = .ok (.dup, 1) := by decide +kernel
theorem dX10_turn_87 : decode cX10_turn 87 = .ok (.getfield 95, 3) := by decide +kernel
theorem dX10_turn_90 : decode cX10_turn 90 = .ok (.iload_n 1, 1) := by decide +kernel
set_option maxRecDepth 20000 in
theorem ggX10_turn_X10_acrossAt : GoodIn wsX10_turn wsX10_acrossAt := goodIn_r _ [63, 50] rfl (by decide +kernel)
set_option maxRecDepth 20000 in
theorem gX10_turn_X10_acrossAt : GoodIn wsX10_turn (va_wsS RX10 239 yX10_acrossAt wsX10_acrossAt) := goodIn_app (goodIn_r _ [61, 62, 8] rfl (by decide +kernel)) ggX10_turn_X10_acrossAt
theorem dX10_turn_91 : decode cX10_turn 91 = .ok (.invokestatic 239, 3) := by decide +kernel
theorem dX10_turn_94 : decode cX10_turn 94 = .ok (.lxor, 1) := by decide +kernel
theorem dX10_turn_95 : decode cX10_turn 95 = .ok (.putfield 95, 3) := by decide +kernel
theorem dX10_turn_98 : decode cX10_turn 98 = .ok (.aload_n 0, 1) := by decide +kernel
set_option maxRecDepth 20000 in
theorem ggX10_turn_X10_rankNow : GoodIn wsX10_turn wsX10_rankNow := goodIn_r _ [67, 3, 4, 68, 69, 70, 8, 71, 18, 19, 20, 21, 22, 23, 24, 25, 26, 27, 28, 29, 30, 31, 32, 33, 34, 35, 36, 37, 38, 39, 40, 41, 42, 43, 44, 45, 46, 47, 48, 49, 50, 72, 73, 74, 75, 76, 77, 55, 56, 57, 78, 79, 80, 81, 82, 83, 84, 85, 86, 87, 88, 89, 90, 91, 92, 93, 94, 95, 96, 97, 98, 99, 100, 101, 102, 103, 104, 105, 106, 107, 108, 109, 110, 111, 112, 113, 114, 115, 116, 117, 118, 119, 120] rfl (by decide +kernel)
set_option maxRecDepth 20000 in
theorem gX10_turn_X10_rankNow : GoodIn wsX10_turn (wsV RX10 227 RX10 yX10_rankNow wsX10_rankNow) := goodIn_app (goodIn_r _ [64, 65, 66, 8] rfl (by decide +kernel)) ggX10_turn_X10_rankNow
theorem dX10_turn_99 : decode cX10_turn 99 = .ok (.invokevirtual 227, 3) := by decide +kernel
theorem dX10_turn_102 : decode cX10_turn 102 = .ok (.ireturn, 1) := by decide +kernel
set_option maxRecDepth 20000 in
theorem ihX10_turn_10 : ∀ w ∈ u_ws RX10 TX10 30, w ∈ wsX10_turn := fun _ h => List.mem_cons_of_mem _ (List.mem_append_right _ h)
set_option maxHeartbeats 4000000 in
set_option maxRecDepth 100000 in
theorem t_X10_turn (l : Launch) (D : va_G) (cy : Nat → ClassId) (a : Nat → Nat) (sz : Nat) (J : Nat → Int64) (I : Nat → Int32) (R : Nat → Nat → Int32) (RJ : Nat → Nat → Int64) (x0 : Int32) (hM : MI I R) : Met l yX10_turn wsX10_turn ({ frames := 5, cells := 0, slots := 0, locals := 114 }) (va_Pc [.ref (a 0), .int x0] (PW D cy sz (MW cy a J I R RJ))) (va_Qi (fun r (u : MS) => ∃ (w0 : Int64), ∃ (w1 : Int64), ∃ (w2 : Int64), ∃ (w3 : Int64), ∃ (w4 : Int64), ∃ (w5 : Int32), ∃ (w6 : Nat → Int32), (True) ∧ u = ((va_up (va_up (va_up (va_up (va_up J 4 w0) 5 w1) 19 w2) 20 w3) 21 w4), (va_up I 13 w5), (va_up R 12 w6), RJ)) (BW D (va_A (MW cy a J I R RJ) sz) (MWu cy a)) (va_A (MW cy a J I R RJ) sz)) 0 0 (va_A (MW cy a J I R RJ) sz) := by
  refine Met.ofW (cc := cX10_turn) (maxL := 3) (ret := (some .int)) (by decide) rfl ?_
  intro p e s m args below meth c s₁ B hml hv
  obtain ⟨rfl, rfl, hP, hK, hN, hD0⟩ := hv
  have hx := B.exec
  have hb := B.bytes
  have hr := B.returns
  have hts := atoms_spec (ws := wsX10_turn) B.pre
  have hown : s.vm.findClass RX10 = some m.cls := findClass_of_methodNamed B.named
  have hlocks := B.notSynchronized
  have hw0 := hts (.constant RX10 141 (-100001)) (by decide +kernel)
  have hw1 := hts (.fieldLink RX10 88 "ParquetLayerModel" "isLaid" "Z") (by decide +kernel)
  have hw2 := hts (.constant RX10 98 (-100006)) (by decide +kernel)
  have hw3 := hts (.fieldLink RX10 92 "ParquetLayerModel" "along" "J") (by decide +kernel)
  have hw4 := hts (.fieldLink RX10 95 "ParquetLayerModel" "across" "J") (by decide +kernel)
  have hi10 := ihX10_turn_10
  have hD := hD0.self (sz := s.heap.size)
  generalize hAe : va_A (MW cy a J I R RJ) s.heap.size = A at hD ⊢
  have hA : ∀ q : Nat, s.heap.size ≤ q → A q := fun q h => by rw [← hAe]; exact Or.inr h
  have hS : va_S A s.heap s.heap [] := va_S.rf
  have hl := lv_entry ([.ref (a 0), .int x0]) (n := 3) (Nat.le_of_ble_eq_true rfl)
  rw [lg_entry_eq]
  generalize (lg_sl ([.ref (a 0), .int x0]) ++ List.replicate (3 - (lg_sl ([.ref (a 0), .int x0])).length) Slot.unset).toArray = ls at hl ⊢
  have hl : lv_has ls 3 [(0, .ref (a 0)), (1, .int x0)] := hl
  have hP : va_P D vwCl (MW cy a (va_up (va_up (va_up (va_up (va_up J 4 (J 4)) 5 (J 5)) 19 (J 19)) 20 (J 20)) 21 (J 21)) (va_up I 13 (I 13)) (va_up R 12 (R 12)) RJ) s.heap := hP
  have hD : va_D A (MW cy a (va_up (va_up (va_up (va_up (va_up J 4 (J 4)) 5 (J 5)) 19 (J 19)) 20 (J 20)) 21 (J 21)) (va_up I 13 (I 13)) (va_up R 12 (R 12)) RJ) := hD
  refine lv_iload_n hx hb dX10_turn_0 rfl (lv_at hl 1 rfl) ?_
  refine kS_i (As := [.int x0]) (rest := []) ⟨hx, hb, hml, hown, hts⟩ (c_X10_isField l x0) (va_cwS 1 hts gX10_turn_X10_isField rfl rfl rfl (by decide +kernel) ⟨Nat.le_of_ble_eq_true rfl, Nat.le_of_ble_eq_true rfl⟩) rfl hl.1 rfl (Nat.le_of_ble_eq_true rfl) dX10_turn_1 ⟨Nat.le_of_ble_eq_true rfl, Nat.le_of_ble_eq_true rfl⟩ ?_
  refine lv_if_eq (tgt := 25) hx hb dX10_turn_4 (by decide) (fun c_1 => ?_) (fun c_1 => ?_)
  · replace c_1 := bI_f c_1
    refine lv_aload_n hx hb dX10_turn_25 rfl (lv_at hl 0 rfl) ?_
    refine lv_ldc (v := (-100001)) hx hb hown hw0 dX10_turn_26 ?_
    refine kM_i (As := [.int (-100001)]) (rest := []) (q0 := 0) ⟨hx, hb, hml, hown, hts⟩ (c_X10_finding l D cy a _ (va_up (va_up (va_up (va_up (va_up J 4 (J 4)) 5 (J 5)) 19 (J 19)) 20 (J 20)) 21 (J 21)) (va_up I 13 (I 13)) (va_up R 12 (R 12)) RJ (-100001) ) (cwV 1 hts gX10_turn_X10_finding rfl rfl rfl (by decide +kernel) ⟨Nat.le_of_ble_eq_true rfl, Nat.le_of_ble_eq_true rfl⟩) hK hN hP hD hS hA rfl rfl rfl hl.1 rfl (Nat.le_of_ble_eq_true rfl) dX10_turn_28 ⟨Nat.le_of_ble_eq_true rfl, Nat.le_of_ble_eq_true rfl⟩ (fun r_2 u H locs hw hP hD hS => ?_)
    obtain ⟨rfl, rfl⟩ := hw
    have hP : va_P D vwCl (MW cy a (va_up (va_up (va_up (va_up (va_up J 4 (J 4)) 5 (J 5)) 19 (J 19)) 20 (J 20)) 21 (J 21)) (va_up I 13 ((I 13) + 1)) (va_up R 12 (R 12)) RJ) H := hP
    have hD : va_D A (MW cy a (va_up (va_up (va_up (va_up (va_up J 4 (J 4)) 5 (J 5)) 19 (J 19)) 20 (J 20)) 21 (J 21)) (va_up I 13 ((I 13) + 1)) (va_up R 12 (R 12)) RJ) := hD
    exact wret_i hx hb hr hlocks ((va_up (va_up (va_up (va_up (va_up J 4 (J 4)) 5 (J 5)) 19 (J 19)) 20 (J 20)) 21 (J 21)), (va_up I 13 ((I 13) + 1)), (va_up R 12 (R 12)), RJ) ⟨(J 4), (J 5), (J 19), (J 20), (J 21), ((I 13) + 1), (R 12), trivial, rfl⟩ hP hD hS dX10_turn_31
  · replace c_1 := bI_t c_1
    refine lv_iload_n hx hb dX10_turn_7 rfl (lv_at hl 1 rfl) ?_
    refine lv_bipush (v := 8) hx hb dX10_turn_8 (by decide) ?_
    refine lv_irem hx hb dX10_turn_10 (by decide) ?_
    refine lv_bipush (v := 6) hx hb dX10_turn_11 (by decide) ?_
    refine lv_icmp_gt (tgt := 25) hx hb dX10_turn_13 (by decide) (fun c_3 => ?_) (fun c_3 => ?_)
    · refine lv_aload_n hx hb dX10_turn_25 rfl (lv_at hl 0 rfl) ?_
      refine lv_ldc (v := (-100001)) hx hb hown hw0 dX10_turn_26 ?_
      refine kM_i (As := [.int (-100001)]) (rest := []) (q0 := 0) ⟨hx, hb, hml, hown, hts⟩ (c_X10_finding l D cy a _ (va_up (va_up (va_up (va_up (va_up J 4 (J 4)) 5 (J 5)) 19 (J 19)) 20 (J 20)) 21 (J 21)) (va_up I 13 (I 13)) (va_up R 12 (R 12)) RJ (-100001) ) (cwV 1 hts gX10_turn_X10_finding rfl rfl rfl (by decide +kernel) ⟨Nat.le_of_ble_eq_true rfl, Nat.le_of_ble_eq_true rfl⟩) hK hN hP hD hS hA rfl rfl rfl hl.1 rfl (Nat.le_of_ble_eq_true rfl) dX10_turn_28 ⟨Nat.le_of_ble_eq_true rfl, Nat.le_of_ble_eq_true rfl⟩ (fun r_4 u H locs hw hP hD hS => ?_)
      obtain ⟨rfl, rfl⟩ := hw
      have hP : va_P D vwCl (MW cy a (va_up (va_up (va_up (va_up (va_up J 4 (J 4)) 5 (J 5)) 19 (J 19)) 20 (J 20)) 21 (J 21)) (va_up I 13 ((I 13) + 1)) (va_up R 12 (R 12)) RJ) H := hP
      have hD : va_D A (MW cy a (va_up (va_up (va_up (va_up (va_up J 4 (J 4)) 5 (J 5)) 19 (J 19)) 20 (J 20)) 21 (J 21)) (va_up I 13 ((I 13) + 1)) (va_up R 12 (R 12)) RJ) := hD
      exact wret_i hx hb hr hlocks ((va_up (va_up (va_up (va_up (va_up J 4 (J 4)) 5 (J 5)) 19 (J 19)) 20 (J 20)) 21 (J 21)), (va_up I 13 ((I 13) + 1)), (va_up R 12 (R 12)), RJ) ⟨(J 4), (J 5), (J 19), (J 20), (J 21), ((I 13) + 1), (R 12), trivial, rfl⟩ hP hD hS dX10_turn_31
    · refine lv_iload_n hx hb dX10_turn_16 rfl (lv_at hl 1 rfl) ?_
      refine lv_bipush (v := 8) hx hb dX10_turn_17 (by decide) ?_
      refine lv_idiv hx hb dX10_turn_19 (by decide) ?_
      refine lv_bipush (v := 6) hx hb dX10_turn_20 (by decide) ?_
      refine lv_icmp_le (tgt := 32) hx hb dX10_turn_22 (by decide) (fun c_5 => ?_) (fun c_5 => ?_)
      · refine lv_aload_n hx hb dX10_turn_32 rfl (lv_at hl 0 rfl) ?_
        refine kM_v (As := []) (rest := []) (q0 := 0) ⟨hx, hb, hml, hown, hts⟩ (t_X10_findGlued l D cy a _ (va_up (va_up (va_up (va_up (va_up J 4 (J 4)) 5 (J 5)) 19 (J 19)) 20 (J 20)) 21 (J 21)) (va_up I 13 (I 13)) (va_up R 12 (R 12)) RJ   ⟨hM.1, hM.2.1, hM.2.2.1, hM.2.2.2.1, hM.2.2.2.2.1, hM.2.2.2.2.2⟩) (cwV 0 hts gX10_turn_X10_findGlued rfl rfl rfl (by decide +kernel) ⟨Nat.le_of_ble_eq_true rfl, Nat.le_of_ble_eq_true rfl⟩) hK hN hP hD hS hA rfl rfl rfl hl.1 rfl (Nat.le_of_ble_eq_true rfl) dX10_turn_33 ⟨Nat.le_of_ble_eq_true rfl, Nat.le_of_ble_eq_true rfl⟩ (fun u H locs hw hP hD hS => ?_)
        obtain ⟨w_7, w_8, w_9, -, rfl⟩ := hw
        have hP : va_P D vwCl (MW cy a (va_up (va_up (va_up (va_up (va_up J 4 (J 4)) 5 (J 5)) 19 w_7) 20 w_8) 21 w_9) (va_up I 13 (I 13)) (va_up R 12 (R 12)) RJ) H := hP
        have hD : va_D A (MW cy a (va_up (va_up (va_up (va_up (va_up J 4 (J 4)) 5 (J 5)) 19 w_7) 20 w_8) 21 w_9) (va_up I 13 (I 13)) (va_up R 12 (R 12)) RJ) := hD
        refine lv_aload_n hx hb dX10_turn_36 rfl (lv_at hl 0 rfl) ?_
        refine va_get (D := D) (ci := 9) (v := .int (I 3)) (C := RX10) (T := TX10) (N := 30) hx hb hts hi10 hown hK hP 0 rfl rfl 3 (by decide) hw1 (fun _ h9 => h9) rfl dX10_turn_37 ?_
        refine lv_if_eq (tgt := 59) hx hb dX10_turn_40 (by decide) (fun c_10 => ?_) (fun c_10 => ?_)
        · refine lv_iconst (v := 0) hx hb dX10_turn_59 (by decide) ?_
          refine lv_istore_n (lv' := [(2, .int 0), (0, .ref (a 0)), (1, .int x0)]) hx hb dX10_turn_60 rfl hl (by decide) rfl (fun ls hl => ?_)
          refine lv_iload_n hx hb dX10_turn_61 rfl (lv_at hl 0 rfl) ?_
          refine lv_if_ne (tgt := 72) hx hb dX10_turn_62 (by decide) (fun c_11 => absurd (by decide) c_11) (fun c_11 => ?_)
          refine lv_aload_n hx hb dX10_turn_65 rfl (lv_at hl 1 rfl) ?_
          refine lv_ldc (v := (-100006)) hx hb hown hw2 dX10_turn_66 ?_
          refine kM_i (As := [.int (-100006)]) (rest := []) (q0 := 0) ⟨hx, hb, hml, hown, hts⟩ (c_X10_finding l D cy a _ (va_up (va_up (va_up (va_up (va_up J 4 (J 4)) 5 (J 5)) 19 w_7) 20 w_8) 21 w_9) (va_up I 13 (I 13)) (va_up R 12 (R 12)) RJ (-100006) ) (cwV 1 hts gX10_turn_X10_finding rfl rfl rfl (by decide +kernel) ⟨Nat.le_of_ble_eq_true rfl, Nat.le_of_ble_eq_true rfl⟩) hK hN hP hD hS hA rfl rfl rfl hl.1 rfl (Nat.le_of_ble_eq_true rfl) dX10_turn_68 ⟨Nat.le_of_ble_eq_true rfl, Nat.le_of_ble_eq_true rfl⟩ (fun r_12 u H locs hw hP hD hS => ?_)
          obtain ⟨rfl, rfl⟩ := hw
          have hP : va_P D vwCl (MW cy a (va_up (va_up (va_up (va_up (va_up J 4 (J 4)) 5 (J 5)) 19 w_7) 20 w_8) 21 w_9) (va_up I 13 ((I 13) + 1)) (va_up R 12 (R 12)) RJ) H := hP
          have hD : va_D A (MW cy a (va_up (va_up (va_up (va_up (va_up J 4 (J 4)) 5 (J 5)) 19 w_7) 20 w_8) 21 w_9) (va_up I 13 ((I 13) + 1)) (va_up R 12 (R 12)) RJ) := hD
          exact wret_i hx hb hr hlocks ((va_up (va_up (va_up (va_up (va_up J 4 (J 4)) 5 (J 5)) 19 w_7) 20 w_8) 21 w_9), (va_up I 13 ((I 13) + 1)), (va_up R 12 (R 12)), RJ) ⟨(J 4), (J 5), w_7, w_8, w_9, ((I 13) + 1), (R 12), trivial, rfl⟩ hP hD hS dX10_turn_71
        · refine lv_aload_n hx hb dX10_turn_43 rfl (lv_at hl 0 rfl) ?_
          refine lv_aload_n hx hb dX10_turn_44 rfl (lv_at hl 0 rfl) ?_
          refine va_get (D := D) (ci := 9) (v := .long (J 4)) (C := RX10) (T := TX10) (N := 30) hx hb hts hi10 hown hK hP 0 rfl rfl 4 (by decide) hw3 (fun _ h9 => h9) rfl dX10_turn_45 ?_
          refine lv_aload_n hx hb dX10_turn_48 rfl (lv_at hl 0 rfl) ?_
          refine va_get (D := D) (ci := 9) (v := .long (J 5)) (C := RX10) (T := TX10) (N := 30) hx hb hts hi10 hown hK hP 0 rfl rfl 5 (by decide) hw4 (fun _ h9 => h9) rfl dX10_turn_49 ?_
          refine lv_iload_n hx hb dX10_turn_52 rfl (lv_at hl 1 rfl) ?_
          refine kM_i (As := [.long (J 4), .long (J 5), .int x0]) (rest := []) (q0 := 0) ⟨hx, hb, hml, hown, hts⟩ (t_X10_turnAt l D cy a _ (va_up (va_up (va_up (va_up (va_up J 4 (J 4)) 5 (J 5)) 19 w_7) 20 w_8) 21 w_9) (va_up I 13 (I 13)) (va_up R 12 (R 12)) RJ (J 4) (J 5) x0  ) (cwV 3 hts gX10_turn_X10_turnAt rfl rfl rfl (by decide +kernel) ⟨Nat.le_of_ble_eq_true rfl, Nat.le_of_ble_eq_true rfl⟩) hK hN hP hD hS hA rfl rfl rfl hl.1 rfl (Nat.le_of_ble_eq_true rfl) dX10_turn_53 ⟨Nat.le_of_ble_eq_true rfl, Nat.le_of_ble_eq_true rfl⟩ (fun r_13 u H locs hw hP hD hS => ?_)
          obtain ⟨-, rfl⟩ := hw
          have hP : va_P D vwCl (MW cy a (va_up (va_up (va_up (va_up (va_up J 4 (J 4)) 5 (J 5)) 19 w_7) 20 w_8) 21 w_9) (va_up I 13 (I 13)) (va_up R 12 (R 12)) RJ) H := hP
          have hD : va_D A (MW cy a (va_up (va_up (va_up (va_up (va_up J 4 (J 4)) 5 (J 5)) 19 w_7) 20 w_8) 21 w_9) (va_up I 13 (I 13)) (va_up R 12 (R 12)) RJ) := hD
          refine lv_goto (tgt := 60) hx hb dX10_turn_56 (by decide) ?_
          refine lv_istore_n (lv' := [(2, .int r_13), (0, .ref (a 0)), (1, .int x0)]) hx hb dX10_turn_60 rfl hl (by decide) rfl (fun ls hl => ?_)
          refine lv_iload_n hx hb dX10_turn_61 rfl (lv_at hl 0 rfl) ?_
          refine lv_if_ne (tgt := 72) hx hb dX10_turn_62 (by decide) (fun c_14 => ?_) (fun c_14 => ?_)
          · refine lv_aload_n hx hb dX10_turn_72 rfl (lv_at hl 1 rfl) ?_
            refine lv_dup hx hb dX10_turn_73 rfl ?_
            refine va_get (D := D) (ci := 9) (v := .long (J 4)) (C := RX10) (T := TX10) (N := 30) hx hb hts hi10 hown hK hP 0 rfl rfl 4 (by decide) hw3 (fun _ h9 => h9) rfl dX10_turn_74 ?_
            refine lv_iload_n hx hb dX10_turn_77 rfl (lv_at hl 2 rfl) ?_
            refine kS_l (As := [.int x0]) (rest := [.long (J 4), .ref (a 0)]) ⟨hx, hb, hml, hown, hts⟩ (c_X10_alongAt l x0) (va_cwS 1 hts gX10_turn_X10_alongAt rfl rfl rfl (by decide +kernel) ⟨Nat.le_of_ble_eq_true rfl, Nat.le_of_ble_eq_true rfl⟩) rfl hl.1 rfl (Nat.le_of_ble_eq_true rfl) dX10_turn_78 ⟨Nat.le_of_ble_eq_true rfl, Nat.le_of_ble_eq_true rfl⟩ ?_
            refine lv_lxor hx hb dX10_turn_81 ?_
            refine va_put (D := D) (ci := 9) (v := .long ((J 4) ^^^ (m_alongAt x0))) (ty := .long) (C := RX10) (T := TX10) (N := 30) hx hb hts hi10 tyX10 tyX10_ok nmX10 hown hK hP hD hS 0 rfl rfl 4 (by decide) hw3 (fun _ h9 => h9) rfl (by decide +kernel) rfl rfl (Nat.le_of_ble_eq_true rfl) dX10_turn_82 (fun H locs hP hD hS => ?_)
            have hP : va_P D vwCl (MW cy a (va_up (va_up (va_up (va_up (va_up J 4 ((J 4) ^^^ (m_alongAt x0))) 5 (J 5)) 19 w_7) 20 w_8) 21 w_9) (va_up I 13 (I 13)) (va_up R 12 (R 12)) RJ) H := hP
            have hD : va_D A (MW cy a (va_up (va_up (va_up (va_up (va_up J 4 ((J 4) ^^^ (m_alongAt x0))) 5 (J 5)) 19 w_7) 20 w_8) 21 w_9) (va_up I 13 (I 13)) (va_up R 12 (R 12)) RJ) := hD
            refine lv_aload_n hx hb dX10_turn_85 rfl (lv_at hl 1 rfl) ?_
            refine lv_dup hx hb dX10_turn_86 rfl ?_
            refine va_get (D := D) (ci := 9) (v := .long (J 5)) (C := RX10) (T := TX10) (N := 30) hx hb hts hi10 hown hK hP 0 rfl rfl 5 (by decide) hw4 (fun _ h9 => h9) rfl dX10_turn_87 ?_
            refine lv_iload_n hx hb dX10_turn_90 rfl (lv_at hl 2 rfl) ?_
            refine kS_l (As := [.int x0]) (rest := [.long (J 5), .ref (a 0)]) ⟨hx, hb, hml, hown, hts⟩ (c_X10_acrossAt l x0) (va_cwS 1 hts gX10_turn_X10_acrossAt rfl rfl rfl (by decide +kernel) ⟨Nat.le_of_ble_eq_true rfl, Nat.le_of_ble_eq_true rfl⟩) rfl hl.1 rfl (Nat.le_of_ble_eq_true rfl) dX10_turn_91 ⟨Nat.le_of_ble_eq_true rfl, Nat.le_of_ble_eq_true rfl⟩ ?_
            refine lv_lxor hx hb dX10_turn_94 ?_
            refine va_put (D := D) (ci := 9) (v := .long ((J 5) ^^^ (m_acrossAt x0))) (ty := .long) (C := RX10) (T := TX10) (N := 30) hx hb hts hi10 tyX10 tyX10_ok nmX10 hown hK hP hD hS 0 rfl rfl 5 (by decide) hw4 (fun _ h9 => h9) rfl (by decide +kernel) rfl rfl (Nat.le_of_ble_eq_true rfl) dX10_turn_95 (fun H locs hP hD hS => ?_)
            have hP : va_P D vwCl (MW cy a (va_up (va_up (va_up (va_up (va_up J 4 ((J 4) ^^^ (m_alongAt x0))) 5 ((J 5) ^^^ (m_acrossAt x0))) 19 w_7) 20 w_8) 21 w_9) (va_up I 13 (I 13)) (va_up R 12 (R 12)) RJ) H := hP
            have hD : va_D A (MW cy a (va_up (va_up (va_up (va_up (va_up J 4 ((J 4) ^^^ (m_alongAt x0))) 5 ((J 5) ^^^ (m_acrossAt x0))) 19 w_7) 20 w_8) 21 w_9) (va_up I 13 (I 13)) (va_up R 12 (R 12)) RJ) := hD
            refine lv_aload_n hx hb dX10_turn_98 rfl (lv_at hl 1 rfl) ?_
            refine kM_i (As := []) (rest := []) (q0 := 0) ⟨hx, hb, hml, hown, hts⟩ (t_X10_rankNow l D cy a _ (va_up (va_up (va_up (va_up (va_up J 4 ((J 4) ^^^ (m_alongAt x0))) 5 ((J 5) ^^^ (m_acrossAt x0))) 19 w_7) 20 w_8) 21 w_9) (va_up I 13 (I 13)) (va_up R 12 (R 12)) RJ   ⟨hM.1, hM.2.1, hM.2.2.1, hM.2.2.2.1, hM.2.2.2.2.1, hM.2.2.2.2.2⟩) (cwV 0 hts gX10_turn_X10_rankNow rfl rfl rfl (by decide +kernel) ⟨Nat.le_of_ble_eq_true rfl, Nat.le_of_ble_eq_true rfl⟩) hK hN hP hD hS hA rfl rfl rfl hl.1 rfl (Nat.le_of_ble_eq_true rfl) dX10_turn_99 ⟨Nat.le_of_ble_eq_true rfl, Nat.le_of_ble_eq_true rfl⟩ (fun r_15 u H locs hw hP hD hS => ?_)
            obtain ⟨w_16, w_17, w_18, w_19, -, rfl⟩ := hw
            have hP : va_P D vwCl (MW cy a (va_up (va_up (va_up (va_up (va_up J 4 ((J 4) ^^^ (m_alongAt x0))) 5 ((J 5) ^^^ (m_acrossAt x0))) 19 w_16) 20 w_17) 21 w_18) (va_up I 13 (I 13)) (va_up R 12 w_19) RJ) H := hP
            have hD : va_D A (MW cy a (va_up (va_up (va_up (va_up (va_up J 4 ((J 4) ^^^ (m_alongAt x0))) 5 ((J 5) ^^^ (m_acrossAt x0))) 19 w_16) 20 w_17) 21 w_18) (va_up I 13 (I 13)) (va_up R 12 w_19) RJ) := hD
            exact wret_i hx hb hr hlocks ((va_up (va_up (va_up (va_up (va_up J 4 ((J 4) ^^^ (m_alongAt x0))) 5 ((J 5) ^^^ (m_acrossAt x0))) 19 w_16) 20 w_17) 21 w_18), (va_up I 13 (I 13)), (va_up R 12 w_19), RJ) ⟨((J 4) ^^^ (m_alongAt x0)), ((J 5) ^^^ (m_acrossAt x0)), w_16, w_17, w_18, (I 13), w_19, trivial, rfl⟩ hP hD hS dX10_turn_102
          · refine lv_aload_n hx hb dX10_turn_65 rfl (lv_at hl 1 rfl) ?_
            refine lv_ldc (v := (-100006)) hx hb hown hw2 dX10_turn_66 ?_
            refine kM_i (As := [.int (-100006)]) (rest := []) (q0 := 0) ⟨hx, hb, hml, hown, hts⟩ (c_X10_finding l D cy a _ (va_up (va_up (va_up (va_up (va_up J 4 (J 4)) 5 (J 5)) 19 w_7) 20 w_8) 21 w_9) (va_up I 13 (I 13)) (va_up R 12 (R 12)) RJ (-100006) ) (cwV 1 hts gX10_turn_X10_finding rfl rfl rfl (by decide +kernel) ⟨Nat.le_of_ble_eq_true rfl, Nat.le_of_ble_eq_true rfl⟩) hK hN hP hD hS hA rfl rfl rfl hl.1 rfl (Nat.le_of_ble_eq_true rfl) dX10_turn_68 ⟨Nat.le_of_ble_eq_true rfl, Nat.le_of_ble_eq_true rfl⟩ (fun r_20 u H locs hw hP hD hS => ?_)
            obtain ⟨rfl, rfl⟩ := hw
            have hP : va_P D vwCl (MW cy a (va_up (va_up (va_up (va_up (va_up J 4 (J 4)) 5 (J 5)) 19 w_7) 20 w_8) 21 w_9) (va_up I 13 ((I 13) + 1)) (va_up R 12 (R 12)) RJ) H := hP
            have hD : va_D A (MW cy a (va_up (va_up (va_up (va_up (va_up J 4 (J 4)) 5 (J 5)) 19 w_7) 20 w_8) 21 w_9) (va_up I 13 ((I 13) + 1)) (va_up R 12 (R 12)) RJ) := hD
            exact wret_i hx hb hr hlocks ((va_up (va_up (va_up (va_up (va_up J 4 (J 4)) 5 (J 5)) 19 w_7) 20 w_8) 21 w_9), (va_up I 13 ((I 13) + 1)), (va_up R 12 (R 12)), RJ) ⟨(J 4), (J 5), w_7, w_8, w_9, ((I 13) + 1), (R 12), trivial, rfl⟩ hP hD hS dX10_turn_71
      · refine lv_aload_n hx hb dX10_turn_25 rfl (lv_at hl 0 rfl) ?_
        refine lv_ldc (v := (-100001)) hx hb hown hw0 dX10_turn_26 ?_
        refine kM_i (As := [.int (-100001)]) (rest := []) (q0 := 0) ⟨hx, hb, hml, hown, hts⟩ (c_X10_finding l D cy a _ (va_up (va_up (va_up (va_up (va_up J 4 (J 4)) 5 (J 5)) 19 (J 19)) 20 (J 20)) 21 (J 21)) (va_up I 13 (I 13)) (va_up R 12 (R 12)) RJ (-100001) ) (cwV 1 hts gX10_turn_X10_finding rfl rfl rfl (by decide +kernel) ⟨Nat.le_of_ble_eq_true rfl, Nat.le_of_ble_eq_true rfl⟩) hK hN hP hD hS hA rfl rfl rfl hl.1 rfl (Nat.le_of_ble_eq_true rfl) dX10_turn_28 ⟨Nat.le_of_ble_eq_true rfl, Nat.le_of_ble_eq_true rfl⟩ (fun r_21 u H locs hw hP hD hS => ?_)
        obtain ⟨rfl, rfl⟩ := hw
        have hP : va_P D vwCl (MW cy a (va_up (va_up (va_up (va_up (va_up J 4 (J 4)) 5 (J 5)) 19 (J 19)) 20 (J 20)) 21 (J 21)) (va_up I 13 ((I 13) + 1)) (va_up R 12 (R 12)) RJ) H := hP
        have hD : va_D A (MW cy a (va_up (va_up (va_up (va_up (va_up J 4 (J 4)) 5 (J 5)) 19 (J 19)) 20 (J 20)) 21 (J 21)) (va_up I 13 ((I 13) + 1)) (va_up R 12 (R 12)) RJ) := hD
        exact wret_i hx hb hr hlocks ((va_up (va_up (va_up (va_up (va_up J 4 (J 4)) 5 (J 5)) 19 (J 19)) 20 (J 20)) 21 (J 21)), (va_up I 13 ((I 13) + 1)), (va_up R 12 (R 12)), RJ) ⟨(J 4), (J 5), (J 19), (J 20), (J 21), ((I 13) + 1), (R 12), trivial, rfl⟩ hP hD hS dX10_turn_31
