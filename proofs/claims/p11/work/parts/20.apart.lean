theorem div4t (a : Int) (h1 : -2147483648 ≤ a) (h2 : a < 2147483648) : -536870912 ≤ a.tdiv 4 ∧ a.tdiv 4 ≤ 536870912 := by
  rcases Int.le_total 0 a with h | h
  · rw [Int.tdiv_eq_ediv_of_nonneg h]
    omega
  · have e : a.tdiv 4 = -((-a) / 4) := by rw [← Int.tdiv_eq_ediv_of_nonneg (by omega), Int.neg_tdiv, Int.neg_neg]
    rw [e]
    omega
theorem div4 (x : Int32) : (x / 4).toInt < 1000000000 ∧ -1000000000 < (x / 4).toInt := by
  have h := i32_rng x
  have e : (4 : Int32).toInt = 4 := rfl
  rw [Int32.toInt_div, e]
  have h2 := div4t x.toInt h.1 h.2
  generalize x.toInt.tdiv 4 = b at h2 ⊢
  rw [Int.bmod_eq_of_le (by omega) (by omega)]
  omega
theorem stp_n {x r : Int32} (hr : r.toInt < 1000000000) (hr2 : -1000000000 < r.toInt) (h : m_within x 0 (r - 1) = true) : ∃ n : Nat, n < 1000000000 ∧ x = nI n := by
  rw [within_iff] at h
  have e1 : (1 : Int32).toInt = 1 := rfl
  have e0 : (0 : Int32).toInt = 0 := rfl
  rw [Int32.toInt_sub, e1, Int.bmod_eq_of_le (by omega) (by omega)] at h
  obtain ⟨j, hj, ej⟩ := nI_ofn (x := x) (by rw [Int32.lt_iff_toInt_lt]; omega)
  exact ⟨j, by omega, hj⟩
theorem stp_le {n k : Nat} {x : Int32} (hn : n < 1000000000) (hx : x = nI n) (hk : k ≤ n + 1) (q : ¬ x < nI k) : k ≤ n := by
  rw [hx] at q
  rcases Nat.lt_or_ge n k with h | h
  · exact absurd ((nI_ltI (a := n) (b := k) (by omega) (by omega)).mpr h) q
  · exact h
theorem mp_t : ∀ f : Fin 64, (9 : Int32) * (nI f.val / 8) + (nI f.val - nI f.val / 8 * 8) = nI (9 * (f.val / 8) + f.val % 8) := by decide +kernel
theorem mp_1 {f : Nat} (h : f < 64) : vp_in (nI (9 * (f / 8) + f % 8) + 1) 81 := by
  rw [nI_1]
  exact vp_in_nI (by omega) (by decide)
theorem mp_9 {f : Nat} (h : f < 64) : vp_in (nI (9 * (f / 8) + f % 8) + 9) 81 := by
  rw [show (9 : Int32) = nI 9 from rfl, nI_add]
  exact vp_in_nI (by omega) (by decide)
theorem mp_10 {f : Nat} (h : f < 64) : vp_in (nI (9 * (f / 8) + f % 8) + 10) 81 := by
  rw [show (10 : Int32) = nI 10 from rfl, nI_add]
  exact vp_in_nI (by omega) (by decide)
theorem dX10_height_0 : decode cX10_height 0 = .ok (.aload_n 0, 1) := by decide +kernel
set_option maxRecDepth 20000 in
theorem ggX10_height_X10_isWhole : GoodIn wsX10_height wsX10_isWhole := goodIn_r _ [11, 12, 13, 14, 15, 10, 16, 17, 18, 19, 20, 21, 22, 23, 24, 25, 26, 27, 28, 29, 30, 31, 32, 33, 34, 35, 36, 37, 38, 39, 40, 41, 42, 43, 44, 45, 46, 47, 76, 77, 78, 79, 80, 81, 82, 83, 84, 85, 86, 87, 88, 89, 90, 91, 92, 93, 94, 95, 96, 97, 98, 99, 100, 101, 102, 103, 104, 105] rfl (by decide +kernel)
set_option maxRecDepth 20000 in
theorem gX10_height_X10_isWhole : GoodIn wsX10_height (wsV RX10 172 RX10 yX10_isWhole wsX10_isWhole) := goodIn_app (goodIn_r _ [7, 8, 9, 10] rfl (by decide +kernel)) ggX10_height_X10_isWhole
theorem dX10_height_1 : decode cX10_height 1 = .ok (.invokevirtual 172, 3) := by decide +kernel
theorem dX10_height_4 : decode cX10_height 4 = .ok (.ifCond .ne 10, 3) := by decide +kernel
theorem dX10_height_14 : decode cX10_height 14 = .ok (.aload_n 0, 1) := by decide +kernel
theorem dX10_height_15 : decode cX10_height 15 = .ok (.getfield 88, 3) := by decide +kernel
theorem dX10_height_18 : decode cX10_height 18 = .ok (.ifCond .eq 32, 3) := by decide +kernel
theorem dX10_height_50 : decode cX10_height 50 = .ok (.aload_n 0, 1) := by decide +kernel
theorem dX10_height_51 : decode cX10_height 51 = .ok (.ldc 98, 2) := by decide +kernel
set_option maxRecDepth 20000 in
theorem ggX10_height_X10_finding : GoodIn wsX10_height wsX10_finding := goodIn_r _ [51, 52, 76, 77, 78, 79, 80, 81, 82, 83, 84, 85, 86, 87, 88, 89, 90, 91, 92, 93, 94, 95, 96, 97, 98, 99, 100, 101, 102, 103, 104, 105] rfl (by decide +kernel)
set_option maxRecDepth 20000 in
theorem gX10_height_X10_finding : GoodIn wsX10_height (wsV RX10 99 RX10 yX10_finding wsX10_finding) := goodIn_app (goodIn_r _ [48, 49, 50, 10] rfl (by decide +kernel)) ggX10_height_X10_finding
theorem dX10_height_53 : decode cX10_height 53 = .ok (.invokevirtual 99, 3) := by decide +kernel
theorem dX10_height_56 : decode cX10_height 56 = .ok (.ireturn, 1) := by decide +kernel
theorem dX10_height_21 : decode cX10_height 21 = .ok (.iload_n 1, 1) := by decide +kernel
theorem dX10_height_22 : decode cX10_height 22 = .ok (.iconst 0, 1) := by decide +kernel
theorem dX10_height_23 : decode cX10_height 23 = .ok (.bipush 8, 2) := by decide +kernel
set_option maxRecDepth 20000 in
theorem ggX10_height_X10_within : GoodIn wsX10_height wsX10_within := goodIn_r _ [40] rfl (by decide +kernel)
set_option maxRecDepth 20000 in
theorem gX10_height_X10_within : GoodIn wsX10_height (va_wsS RX10 70 yX10_within wsX10_within) := goodIn_app (goodIn_r _ [38, 39, 10] rfl (by decide +kernel)) ggX10_height_X10_within
theorem dX10_height_25 : decode cX10_height 25 = .ok (.invokestatic 70, 3) := by decide +kernel
theorem dX10_height_28 : decode cX10_height 28 = .ok (.ifCond .eq 22, 3) := by decide +kernel
theorem dX10_height_31 : decode cX10_height 31 = .ok (.iload_n 2, 1) := by decide +kernel
theorem dX10_height_32 : decode cX10_height 32 = .ok (.iconst 0, 1) := by decide +kernel
theorem dX10_height_33 : decode cX10_height 33 = .ok (.bipush 8, 2) := by decide +kernel
theorem dX10_height_35 : decode cX10_height 35 = .ok (.invokestatic 70, 3) := by decide +kernel
theorem dX10_height_38 : decode cX10_height 38 = .ok (.ifCond .eq 12, 3) := by decide +kernel
theorem dX10_height_41 : decode cX10_height 41 = .ok (.aload_n 0, 1) := by decide +kernel
theorem dX10_height_42 : decode cX10_height 42 = .ok (.iload_n 1, 1) := by decide +kernel
theorem dX10_height_43 : decode cX10_height 43 = .ok (.iload_n 2, 1) := by decide +kernel
set_option maxRecDepth 20000 in
theorem ggX10_height_X10_isPoint : GoodIn wsX10_height wsX10_isPoint := goodIn_r _ [56, 12, 35, 36, 10, 37, 38, 39, 40, 41, 42, 43, 76, 77, 78, 79, 80, 81, 82, 83, 84, 85, 86, 87, 88, 89, 90, 91, 92, 93, 94, 95, 96, 97, 98, 99, 100, 101, 102, 103, 104, 105] rfl (by decide +kernel)
set_option maxRecDepth 20000 in
theorem gX10_height_X10_isPoint : GoodIn wsX10_height (wsV RX10 243 RX10 yX10_isPoint wsX10_isPoint) := goodIn_app (goodIn_r _ [53, 54, 55, 10] rfl (by decide +kernel)) ggX10_height_X10_isPoint
theorem dX10_height_44 : decode cX10_height 44 = .ok (.invokevirtual 243, 3) := by decide +kernel
theorem dX10_height_47 : decode cX10_height 47 = .ok (.ifCond .ne 10, 3) := by decide +kernel
theorem dX10_height_57 : decode cX10_height 57 = .ok (.aload_n 0, 1) := by decide +kernel
theorem dX10_height_58 : decode cX10_height 58 = .ok (.aload_n 0, 1) := by decide +kernel
theorem dX10_height_59 : decode cX10_height 59 = .ok (.getfield 92, 3) := by decide +kernel
theorem dX10_height_62 : decode cX10_height 62 = .ok (.aload_n 0, 1) := by decide +kernel
theorem dX10_height_63 : decode cX10_height 63 = .ok (.getfield 95, 3) := by decide +kernel
theorem dX10_height_66 : decode cX10_height 66 = .ok (.aload_n 0, 1) := by decide +kernel
theorem dX10_height_67 : decode cX10_height 67 = .ok (.getfield 48, 3) := by decide +kernel
set_option maxRecDepth 20000 in
theorem ggX10_height_X10_findHeights : GoodIn wsX10_height wsX10_findHeights := goodIn_r _ [60, 61, 53, 54, 55, 10, 56, 12, 35, 36, 37, 38, 39, 40, 41, 42, 43, 62, 63, 64, 65, 66, 67, 68, 69, 70, 71, 72, 73, 74, 75, 76, 77, 78, 79, 80, 81, 82, 83, 84, 85, 86, 87, 88, 89, 90, 91, 92, 93, 94, 95, 96, 97, 98, 99, 100, 101, 102, 103, 104, 105] rfl (by decide +kernel)
set_option maxRecDepth 20000 in
theorem gX10_height_X10_findHeights : GoodIn wsX10_height (wsV RX10 256 RX10 yX10_findHeights wsX10_findHeights) := goodIn_app (goodIn_r _ [57, 58, 59, 10] rfl (by decide +kernel)) ggX10_height_X10_findHeights
theorem dX10_height_70 : decode cX10_height 70 = .ok (.invokevirtual 256, 3) := by decide +kernel
theorem dX10_height_73 : decode cX10_height 73 = .ok (.aload_n 0, 1) := by decide +kernel
theorem dX10_height_74 : decode cX10_height 74 = .ok (.getfield 48, 3) := by decide +kernel
theorem dX10_height_77 : decode cX10_height 77 = .ok (.bipush 9, 2) := by decide +kernel
theorem dX10_height_79 : decode cX10_height 79 = .ok (.iload_n 2, 1) := by decide +kernel
theorem dX10_height_80 : decode cX10_height 80 = .ok (.imul, 1) := by decide +kernel
theorem dX10_height_81 : decode cX10_height 81 = .ok (.iload_n 1, 1) := by decide +kernel
theorem dX10_height_82 : decode cX10_height 82 = .ok (.iadd, 1) := by decide +kernel
theorem dX10_height_83 : decode cX10_height 83 = .ok (.iaload, 1) := by decide +kernel
theorem dX10_height_84 : decode cX10_height 84 = .ok (.ireturn, 1) := by decide +kernel
theorem dX10_height_7 : decode cX10_height 7 = .ok (.aload_n 0, 1) := by decide +kernel
theorem dX10_height_8 : decode cX10_height 8 = .ok (.ldc 133, 2) := by decide +kernel
theorem dX10_height_10 : decode cX10_height 10 = .ok (.invokevirtual 99, 3) := by decide +kernel
theorem dX10_height_13 : decode cX10_height 13 = .ok (.ireturn, 1) := by decide +kernel
set_option maxRecDepth 20000 in
theorem ihX10_height_10 : ∀ w ∈ u_ws RX10 TX10 30, w ∈ wsX10_height := fun _ h => List.mem_cons_of_mem _ (List.mem_append_right _ h)
set_option maxHeartbeats 4000000 in
set_option maxRecDepth 100000 in
theorem t_X10_height (l : Launch) (D : va_G) (cy : Nat → ClassId) (a : Nat → Nat) (sz : Nat) (J : Nat → Int64) (I : Nat → Int32) (R : Nat → Nat → Int32) (RJ : Nat → Nat → Int64) (x0 : Int32) (x1 : Int32) (hM : MI I R) : Met l yX10_height wsX10_height ({ frames := 6, cells := 0, slots := 0, locals := 136 }) (va_Pc [.ref (a 0), .int x0, .int x1] (PW D cy sz (MW cy a J I R RJ))) (va_Qi (fun r (u : MS) => ∃ (w0 : Int32), ∃ (w1 : Nat → Int32), ∃ (w2 : Nat → Int32), (True) ∧ u = (J, (va_up I 13 w0), (va_up (va_up R 11 w1) 13 w2), RJ)) (BW D (va_A (MW cy a J I R RJ) sz) (MWu cy a)) (va_A (MW cy a J I R RJ) sz)) 0 0 (va_A (MW cy a J I R RJ) sz) := by
  refine Met.ofW (cc := cX10_height) (maxL := 3) (ret := (some .int)) (by decide) rfl ?_
  intro p e s m args below meth c s₁ B hml hv
  obtain ⟨rfl, rfl, hP, hK, hN, hD0⟩ := hv
  have hx := B.exec
  have hb := B.bytes
  have hr := B.returns
  have hts := atoms_spec (ws := wsX10_height) B.pre
  have hown : s.vm.findClass RX10 = some m.cls := findClass_of_methodNamed B.named
  have hlocks := B.notSynchronized
  have hw0 := hts (.fieldLink RX10 88 "ParquetLayerModel" "isLaid" "Z") (by decide +kernel)
  have hw1 := hts (.constant RX10 98 (-100006)) (by decide +kernel)
  have hw2 := hts (.fieldLink RX10 92 "ParquetLayerModel" "along" "J") (by decide +kernel)
  have hw3 := hts (.fieldLink RX10 95 "ParquetLayerModel" "across" "J") (by decide +kernel)
  have hw4 := hts (.fieldLink RX10 48 "ParquetLayerModel" "one" "[I") (by decide +kernel)
  have hw5 := hts (.constant RX10 133 (-100004)) (by decide +kernel)
  have hi10 := ihX10_height_10
  have hD := hD0.self (sz := s.heap.size)
  generalize hAe : va_A (MW cy a J I R RJ) s.heap.size = A at hD ⊢
  have hA : ∀ q : Nat, s.heap.size ≤ q → A q := fun q h => by rw [← hAe]; exact Or.inr h
  have hS : va_S A s.heap s.heap [] := va_S.rf
  have hl := lv_entry ([.ref (a 0), .int x0, .int x1]) (n := 3) (Nat.le_of_ble_eq_true rfl)
  rw [lg_entry_eq]
  generalize (lg_sl ([.ref (a 0), .int x0, .int x1]) ++ List.replicate (3 - (lg_sl ([.ref (a 0), .int x0, .int x1])).length) Slot.unset).toArray = ls at hl ⊢
  have hl : lv_has ls 3 [(0, .ref (a 0)), (1, .int x0), (2, .int x1)] := hl
  have hP : va_P D vwCl (MW cy a J (va_up I 13 (I 13)) (va_up (va_up R 11 (R 11)) 13 (R 13)) RJ) s.heap := hP
  have hD : va_D A (MW cy a J (va_up I 13 (I 13)) (va_up (va_up R 11 (R 11)) 13 (R 13)) RJ) := hD
  refine lv_aload_n hx hb dX10_height_0 rfl (lv_at hl 0 rfl) ?_
  refine kM_i (As := []) (rest := []) (q0 := 0) ⟨hx, hb, hml, hown, hts⟩ (t_X10_isWhole l D cy a _ J (va_up I 13 (I 13)) (va_up (va_up R 11 (R 11)) 13 (R 13)) RJ   ⟨hM.1, hM.2.1, hM.2.2.1, hM.2.2.2.1, hM.2.2.2.2.1, hM.2.2.2.2.2⟩) (cwV 0 hts gX10_height_X10_isWhole rfl rfl rfl (by decide +kernel) ⟨Nat.le_of_ble_eq_true rfl, Nat.le_of_ble_eq_true rfl⟩) hK hN hP hD hS hA rfl rfl rfl hl.1 rfl (Nat.le_of_ble_eq_true rfl) dX10_height_1 ⟨Nat.le_of_ble_eq_true rfl, Nat.le_of_ble_eq_true rfl⟩ (fun r_1 u H locs hw hP hD hS => ?_)
  obtain ⟨w_2, zb_3, ⟨rfl, hp_4⟩, rfl⟩ := hw
  have hP : va_P D vwCl (MW cy a J (va_up I 13 (I 13)) (va_up (va_up R 11 w_2) 13 (R 13)) RJ) H := hP
  have hD : va_D A (MW cy a J (va_up I 13 (I 13)) (va_up (va_up R 11 w_2) 13 (R 13)) RJ) := hD
  refine lv_if_ne (tgt := 14) hx hb dX10_height_4 (by decide) (fun c_5 => ?_) (fun c_5 => ?_)
  · replace c_5 := bI_t c_5
    refine lv_aload_n hx hb dX10_height_14 rfl (lv_at hl 0 rfl) ?_
    refine va_get (D := D) (ci := 9) (v := .int (I 3)) (C := RX10) (T := TX10) (N := 30) hx hb hts hi10 hown hK hP 0 rfl rfl 3 (by decide) hw0 (fun _ h9 => h9) rfl dX10_height_15 ?_
    refine lv_if_eq (tgt := 50) hx hb dX10_height_18 (by decide) (fun c_6 => ?_) (fun c_6 => ?_)
    · refine lv_aload_n hx hb dX10_height_50 rfl (lv_at hl 0 rfl) ?_
      refine lv_ldc (v := (-100006)) hx hb hown hw1 dX10_height_51 ?_
      refine kM_i (As := [.int (-100006)]) (rest := []) (q0 := 0) ⟨hx, hb, hml, hown, hts⟩ (c_X10_finding l D cy a _ J (va_up I 13 (I 13)) (va_up (va_up R 11 w_2) 13 (R 13)) RJ (-100006) ) (cwV 1 hts gX10_height_X10_finding rfl rfl rfl (by decide +kernel) ⟨Nat.le_of_ble_eq_true rfl, Nat.le_of_ble_eq_true rfl⟩) hK hN hP hD hS hA rfl rfl rfl hl.1 rfl (Nat.le_of_ble_eq_true rfl) dX10_height_53 ⟨Nat.le_of_ble_eq_true rfl, Nat.le_of_ble_eq_true rfl⟩ (fun r_7 u H locs hw hP hD hS => ?_)
      obtain ⟨rfl, rfl⟩ := hw
      have hP : va_P D vwCl (MW cy a J (va_up I 13 ((I 13) + 1)) (va_up (va_up R 11 w_2) 13 (R 13)) RJ) H := hP
      have hD : va_D A (MW cy a J (va_up I 13 ((I 13) + 1)) (va_up (va_up R 11 w_2) 13 (R 13)) RJ) := hD
      exact wret_i hx hb hr hlocks (J, (va_up I 13 ((I 13) + 1)), (va_up (va_up R 11 w_2) 13 (R 13)), RJ) ⟨((I 13) + 1), w_2, (R 13), trivial, rfl⟩ hP hD hS dX10_height_56
    · refine lv_iload_n hx hb dX10_height_21 rfl (lv_at hl 1 rfl) ?_
      refine lv_iconst (v := 0) hx hb dX10_height_22 (by decide) ?_
      refine lv_bipush (v := 8) hx hb dX10_height_23 (by decide) ?_
      refine kS_i (As := [.int x0, .int 0, .int 8]) (rest := []) ⟨hx, hb, hml, hown, hts⟩ (c_X10_within l x0 0 8) (va_cwS 3 hts gX10_height_X10_within rfl rfl rfl (by decide +kernel) ⟨Nat.le_of_ble_eq_true rfl, Nat.le_of_ble_eq_true rfl⟩) rfl hl.1 rfl (Nat.le_of_ble_eq_true rfl) dX10_height_25 ⟨Nat.le_of_ble_eq_true rfl, Nat.le_of_ble_eq_true rfl⟩ ?_
      refine lv_if_eq (tgt := 50) hx hb dX10_height_28 (by decide) (fun c_8 => ?_) (fun c_8 => ?_)
      · replace c_8 := bI_f c_8
        refine lv_aload_n hx hb dX10_height_50 rfl (lv_at hl 0 rfl) ?_
        refine lv_ldc (v := (-100006)) hx hb hown hw1 dX10_height_51 ?_
        refine kM_i (As := [.int (-100006)]) (rest := []) (q0 := 0) ⟨hx, hb, hml, hown, hts⟩ (c_X10_finding l D cy a _ J (va_up I 13 (I 13)) (va_up (va_up R 11 w_2) 13 (R 13)) RJ (-100006) ) (cwV 1 hts gX10_height_X10_finding rfl rfl rfl (by decide +kernel) ⟨Nat.le_of_ble_eq_true rfl, Nat.le_of_ble_eq_true rfl⟩) hK hN hP hD hS hA rfl rfl rfl hl.1 rfl (Nat.le_of_ble_eq_true rfl) dX10_height_53 ⟨Nat.le_of_ble_eq_true rfl, Nat.le_of_ble_eq_true rfl⟩ (fun r_9 u H locs hw hP hD hS => ?_)
        obtain ⟨rfl, rfl⟩ := hw
        have hP : va_P D vwCl (MW cy a J (va_up I 13 ((I 13) + 1)) (va_up (va_up R 11 w_2) 13 (R 13)) RJ) H := hP
        have hD : va_D A (MW cy a J (va_up I 13 ((I 13) + 1)) (va_up (va_up R 11 w_2) 13 (R 13)) RJ) := hD
        exact wret_i hx hb hr hlocks (J, (va_up I 13 ((I 13) + 1)), (va_up (va_up R 11 w_2) 13 (R 13)), RJ) ⟨((I 13) + 1), w_2, (R 13), trivial, rfl⟩ hP hD hS dX10_height_56
      · replace c_8 := bI_t c_8
        refine lv_iload_n hx hb dX10_height_31 rfl (lv_at hl 2 rfl) ?_
        refine lv_iconst (v := 0) hx hb dX10_height_32 (by decide) ?_
        refine lv_bipush (v := 8) hx hb dX10_height_33 (by decide) ?_
        refine kS_i (As := [.int x1, .int 0, .int 8]) (rest := []) ⟨hx, hb, hml, hown, hts⟩ (c_X10_within l x1 0 8) (va_cwS 3 hts gX10_height_X10_within rfl rfl rfl (by decide +kernel) ⟨Nat.le_of_ble_eq_true rfl, Nat.le_of_ble_eq_true rfl⟩) rfl hl.1 rfl (Nat.le_of_ble_eq_true rfl) dX10_height_35 ⟨Nat.le_of_ble_eq_true rfl, Nat.le_of_ble_eq_true rfl⟩ ?_
        refine lv_if_eq (tgt := 50) hx hb dX10_height_38 (by decide) (fun c_10 => ?_) (fun c_10 => ?_)
        · replace c_10 := bI_f c_10
          refine lv_aload_n hx hb dX10_height_50 rfl (lv_at hl 0 rfl) ?_
          refine lv_ldc (v := (-100006)) hx hb hown hw1 dX10_height_51 ?_
          refine kM_i (As := [.int (-100006)]) (rest := []) (q0 := 0) ⟨hx, hb, hml, hown, hts⟩ (c_X10_finding l D cy a _ J (va_up I 13 (I 13)) (va_up (va_up R 11 w_2) 13 (R 13)) RJ (-100006) ) (cwV 1 hts gX10_height_X10_finding rfl rfl rfl (by decide +kernel) ⟨Nat.le_of_ble_eq_true rfl, Nat.le_of_ble_eq_true rfl⟩) hK hN hP hD hS hA rfl rfl rfl hl.1 rfl (Nat.le_of_ble_eq_true rfl) dX10_height_53 ⟨Nat.le_of_ble_eq_true rfl, Nat.le_of_ble_eq_true rfl⟩ (fun r_11 u H locs hw hP hD hS => ?_)
          obtain ⟨rfl, rfl⟩ := hw
          have hP : va_P D vwCl (MW cy a J (va_up I 13 ((I 13) + 1)) (va_up (va_up R 11 w_2) 13 (R 13)) RJ) H := hP
          have hD : va_D A (MW cy a J (va_up I 13 ((I 13) + 1)) (va_up (va_up R 11 w_2) 13 (R 13)) RJ) := hD
          exact wret_i hx hb hr hlocks (J, (va_up I 13 ((I 13) + 1)), (va_up (va_up R 11 w_2) 13 (R 13)), RJ) ⟨((I 13) + 1), w_2, (R 13), trivial, rfl⟩ hP hD hS dX10_height_56
        · replace c_10 := bI_t c_10
          refine lv_aload_n hx hb dX10_height_41 rfl (lv_at hl 0 rfl) ?_
          refine lv_iload_n hx hb dX10_height_42 rfl (lv_at hl 1 rfl) ?_
          refine lv_iload_n hx hb dX10_height_43 rfl (lv_at hl 2 rfl) ?_
          refine kR_i (As := [.int x0, .int x1]) (rest := []) (q0 := 0) ⟨hx, hb, hml, hown, hts⟩ (c_X10_isPoint l D cy a _ J (va_up I 13 (I 13)) (va_up (va_up R 11 w_2) 13 (R 13)) RJ x0 x1 ) (cwV 2 hts gX10_height_X10_isPoint rfl rfl rfl (by decide +kernel) ⟨Nat.le_of_ble_eq_true rfl, Nat.le_of_ble_eq_true rfl⟩) hK hN hP hD rfl rfl rfl hl.1 rfl (Nat.le_of_ble_eq_true rfl) dX10_height_44 ⟨Nat.le_of_ble_eq_true rfl, Nat.le_of_ble_eq_true rfl⟩ ?_
          refine lv_if_ne (tgt := 57) hx hb dX10_height_47 (by decide) (fun c_12 => ?_) (fun c_12 => ?_)
          · replace c_12 := bI_t c_12
            refine lv_aload_n hx hb dX10_height_57 rfl (lv_at hl 0 rfl) ?_
            refine lv_aload_n hx hb dX10_height_58 rfl (lv_at hl 0 rfl) ?_
            refine va_get (D := D) (ci := 9) (v := .long (J 4)) (C := RX10) (T := TX10) (N := 30) hx hb hts hi10 hown hK hP 0 rfl rfl 4 (by decide) hw2 (fun _ h9 => h9) rfl dX10_height_59 ?_
            refine lv_aload_n hx hb dX10_height_62 rfl (lv_at hl 0 rfl) ?_
            refine va_get (D := D) (ci := 9) (v := .long (J 5)) (C := RX10) (T := TX10) (N := 30) hx hb hts hi10 hown hK hP 0 rfl rfl 5 (by decide) hw3 (fun _ h9 => h9) rfl dX10_height_63 ?_
            refine lv_aload_n hx hb dX10_height_66 rfl (lv_at hl 0 rfl) ?_
            refine va_get (D := D) (ci := 9) (v := .ref (a 13)) (C := RX10) (T := TX10) (N := 30) hx hb hts hi10 hown hK hP 0 rfl rfl 24 (by decide) hw4 (fun _ h9 => h9) rfl dX10_height_67 ?_
            refine kM_v (As := [.long (J 4), .long (J 5), .ref (a 13)]) (rest := []) (q0 := 0) ⟨hx, hb, hml, hown, hts⟩ (t_X10_findHeights13 l D cy a _ J (va_up I 13 (I 13)) (va_up (va_up R 11 w_2) 13 (R 13)) RJ (J 4) (J 5) (hp_4 c_5) ) (cwV 3 hts gX10_height_X10_findHeights rfl rfl rfl (by decide +kernel) ⟨Nat.le_of_ble_eq_true rfl, Nat.le_of_ble_eq_true rfl⟩) hK hN hP hD hS hA rfl rfl rfl hl.1 rfl (Nat.le_of_ble_eq_true rfl) dX10_height_70 ⟨Nat.le_of_ble_eq_true rfl, Nat.le_of_ble_eq_true rfl⟩ (fun u H locs hw hP hD hS => ?_)
            obtain ⟨w_14, -, rfl⟩ := hw
            have hP : va_P D vwCl (MW cy a J (va_up I 13 (I 13)) (va_up (va_up R 11 w_2) 13 w_14) RJ) H := hP
            have hD : va_D A (MW cy a J (va_up I 13 (I 13)) (va_up (va_up R 11 w_2) 13 w_14) RJ) := hD
            refine lv_aload_n hx hb dX10_height_73 rfl (lv_at hl 0 rfl) ?_
            refine va_get (D := D) (ci := 9) (v := .ref (a 13)) (C := RX10) (T := TX10) (N := 30) hx hb hts hi10 hown hK hP 0 rfl rfl 24 (by decide) hw4 (fun _ h9 => h9) rfl dX10_height_74 ?_
            refine lv_bipush (v := 9) hx hb dX10_height_77 (by decide) ?_
            refine lv_iload_n hx hb dX10_height_79 rfl (lv_at hl 2 rfl) ?_
            refine lv_imul hx hb dX10_height_80 ?_
            refine lv_iload_n hx hb dX10_height_81 rfl (lv_at hl 1 rfl) ?_
            refine lv_iadd hx hb dX10_height_82 ?_
            refine va_iald hx hb hK hP 13 0 rfl rfl (h81 c_8 c_10) dX10_height_83 ?_
            exact wret_i hx hb hr hlocks (J, (va_up I 13 (I 13)), (va_up (va_up R 11 w_2) 13 w_14), RJ) ⟨(I 13), w_2, w_14, trivial, rfl⟩ hP hD hS dX10_height_84
          · replace c_12 := bI_f c_12
            refine lv_aload_n hx hb dX10_height_50 rfl (lv_at hl 0 rfl) ?_
            refine lv_ldc (v := (-100006)) hx hb hown hw1 dX10_height_51 ?_
            refine kM_i (As := [.int (-100006)]) (rest := []) (q0 := 0) ⟨hx, hb, hml, hown, hts⟩ (c_X10_finding l D cy a _ J (va_up I 13 (I 13)) (va_up (va_up R 11 w_2) 13 (R 13)) RJ (-100006) ) (cwV 1 hts gX10_height_X10_finding rfl rfl rfl (by decide +kernel) ⟨Nat.le_of_ble_eq_true rfl, Nat.le_of_ble_eq_true rfl⟩) hK hN hP hD hS hA rfl rfl rfl hl.1 rfl (Nat.le_of_ble_eq_true rfl) dX10_height_53 ⟨Nat.le_of_ble_eq_true rfl, Nat.le_of_ble_eq_true rfl⟩ (fun r_15 u H locs hw hP hD hS => ?_)
            obtain ⟨rfl, rfl⟩ := hw
            have hP : va_P D vwCl (MW cy a J (va_up I 13 ((I 13) + 1)) (va_up (va_up R 11 w_2) 13 (R 13)) RJ) H := hP
            have hD : va_D A (MW cy a J (va_up I 13 ((I 13) + 1)) (va_up (va_up R 11 w_2) 13 (R 13)) RJ) := hD
            exact wret_i hx hb hr hlocks (J, (va_up I 13 ((I 13) + 1)), (va_up (va_up R 11 w_2) 13 (R 13)), RJ) ⟨((I 13) + 1), w_2, (R 13), trivial, rfl⟩ hP hD hS dX10_height_56
  · replace c_5 := bI_f c_5
    refine lv_aload_n hx hb dX10_height_7 rfl (lv_at hl 0 rfl) ?_
    refine lv_ldc (v := (-100004)) hx hb hown hw5 dX10_height_8 ?_
    refine kM_i (As := [.int (-100004)]) (rest := []) (q0 := 0) ⟨hx, hb, hml, hown, hts⟩ (c_X10_finding l D cy a _ J (va_up I 13 (I 13)) (va_up (va_up R 11 w_2) 13 (R 13)) RJ (-100004) ) (cwV 1 hts gX10_height_X10_finding rfl rfl rfl (by decide +kernel) ⟨Nat.le_of_ble_eq_true rfl, Nat.le_of_ble_eq_true rfl⟩) hK hN hP hD hS hA rfl rfl rfl hl.1 rfl (Nat.le_of_ble_eq_true rfl) dX10_height_10 ⟨Nat.le_of_ble_eq_true rfl, Nat.le_of_ble_eq_true rfl⟩ (fun r_16 u H locs hw hP hD hS => ?_)
    obtain ⟨rfl, rfl⟩ := hw
    have hP : va_P D vwCl (MW cy a J (va_up I 13 ((I 13) + 1)) (va_up (va_up R 11 w_2) 13 (R 13)) RJ) H := hP
    have hD : va_D A (MW cy a J (va_up I 13 ((I 13) + 1)) (va_up (va_up R 11 w_2) 13 (R 13)) RJ) := hD
    exact wret_i hx hb hr hlocks (J, (va_up I 13 ((I 13) + 1)), (va_up (va_up R 11 w_2) 13 (R 13)), RJ) ⟨((I 13) + 1), w_2, (R 13), trivial, rfl⟩ hP hD hS dX10_height_13
theorem dX10_against_0 : decode cX10_against 0 = .ok (.aload_n 0, 1) := by decide +kernel
set_option maxRecDepth 20000 in
theorem ggX10_against_X10_isWhole : GoodIn wsX10_against wsX10_isWhole := goodIn_r _ [11, 12, 13, 14, 15, 10, 16, 17, 18, 19, 20, 21, 22, 23, 24, 25, 26, 27, 28, 29, 30, 31, 32, 33, 34, 35, 36, 37, 38, 39, 40, 41, 42, 43, 44, 45, 46, 47, 116, 117, 118, 119, 120, 121, 122, 123, 124, 125, 126, 127, 128, 129, 130, 131, 132, 133, 134, 135, 136, 137, 138, 139, 140, 141, 142, 143, 144, 145] rfl (by decide +kernel)
set_option maxRecDepth 20000 in
theorem gX10_against_X10_isWhole : GoodIn wsX10_against (wsV RX10 172 RX10 yX10_isWhole wsX10_isWhole) := goodIn_app (goodIn_r _ [7, 8, 9, 10] rfl (by decide +kernel)) ggX10_against_X10_isWhole
theorem dX10_against_1 : decode cX10_against 1 = .ok (.invokevirtual 172, 3) := by decide +kernel
theorem dX10_against_4 : decode cX10_against 4 = .ok (.ifCond .ne 6, 3) := by decide +kernel
theorem dX10_against_10 : decode cX10_against 10 = .ok (.aload_n 0, 1) := by decide +kernel
set_option maxRecDepth 20000 in
theorem ggX10_against_X10_countAll : GoodIn wsX10_against wsX10_countAll := goodIn_r _ [51, 52, 53, 54, 10, 55, 56, 57, 58, 17, 18, 19, 20, 21, 22, 23, 24, 25, 26, 59, 60, 61, 62, 63, 64, 65, 66, 67, 68, 69, 70, 71, 72, 73, 74, 75, 76, 77, 78, 79, 12, 41, 42, 43, 80, 81, 82, 83, 84, 85, 86, 87, 88, 116, 117, 118, 119, 120, 121, 122, 123, 124, 125, 126, 127, 128, 129, 130, 131, 132, 133, 134, 135, 136, 137, 138, 139, 140, 141, 142, 143, 144, 145] rfl (by decide +kernel)
set_option maxRecDepth 20000 in
theorem gX10_against_X10_countAll : GoodIn wsX10_against (wsV RX10 207 RX10 yX10_countAll wsX10_countAll) := goodIn_app (goodIn_r _ [48, 49, 50, 10] rfl (by decide +kernel)) ggX10_against_X10_countAll
theorem dX10_against_11 : decode cX10_against 11 = .ok (.invokevirtual 207, 3) := by decide +kernel
theorem dX10_against_14 : decode cX10_against 14 = .ok (.istore_n 3, 1) := by decide +kernel
theorem dX10_against_15 : decode cX10_against 15 = .ok (.iload_n 1, 1) := by decide +kernel
theorem dX10_against_16 : decode cX10_against 16 = .ok (.iconst 0, 1) := by decide +kernel
theorem dX10_against_17 : decode cX10_against 17 = .ok (.iload_n 3, 1) := by decide +kernel
theorem dX10_against_18 : decode cX10_against 18 = .ok (.iconst 1, 1) := by decide +kernel
theorem dX10_against_19 : decode cX10_against 19 = .ok (.isub, 1) := by decide +kernel
set_option maxRecDepth 20000 in
theorem ggX10_against_X10_within : GoodIn wsX10_against wsX10_within := goodIn_r _ [40] rfl (by decide +kernel)
set_option maxRecDepth 20000 in
theorem gX10_against_X10_within : GoodIn wsX10_against (va_wsS RX10 70 yX10_within wsX10_within) := goodIn_app (goodIn_r _ [38, 39, 10] rfl (by decide +kernel)) ggX10_against_X10_within
theorem dX10_against_20 : decode cX10_against 20 = .ok (.invokestatic 70, 3) := by decide +kernel
theorem dX10_against_23 : decode cX10_against 23 = .ok (.ifCond .eq 14, 3) := by decide +kernel
theorem dX10_against_37 : decode cX10_against 37 = .ok (.ldc 141, 2) := by decide +kernel
theorem dX10_against_39 : decode cX10_against 39 = .ok (.ireturn, 1) := by decide +kernel
theorem dX10_against_26 : decode cX10_against 26 = .ok (.iload_n 2, 1) := by decide +kernel
theorem dX10_against_27 : decode cX10_against 27 = .ok (.iconst 0, 1) := by decide +kernel
theorem dX10_against_28 : decode cX10_against 28 = .ok (.iload_n 3, 1) := by decide +kernel
theorem dX10_against_29 : decode cX10_against 29 = .ok (.iconst 1, 1) := by decide +kernel
theorem dX10_against_30 : decode cX10_against 30 = .ok (.isub, 1) := by decide +kernel
theorem dX10_against_31 : decode cX10_against 31 = .ok (.invokestatic 70, 3) := by decide +kernel
theorem dX10_against_34 : decode cX10_against 34 = .ok (.ifCond .ne 6, 3) := by decide +kernel
theorem dX10_against_40 : decode cX10_against 40 = .ok (.aload_n 0, 1) := by decide +kernel
theorem dX10_against_41 : decode cX10_against 41 = .ok (.iload_n 2, 1) := by decide +kernel
set_option maxRecDepth 20000 in
theorem ggX10_against_X10_walk : GoodIn wsX10_against wsX10_walk := goodIn_r _ [92, 3, 4, 12, 41, 42, 10, 43, 80, 81, 82, 83, 84, 58, 57, 56, 71, 72, 73, 74, 85, 86, 87, 88, 79, 116, 117, 118, 119, 120, 121, 122, 123, 124, 125, 126, 127, 128, 129, 130, 131, 132, 133, 134, 135, 136, 137, 138, 139, 140, 141, 142, 143, 144, 145] rfl (by decide +kernel)
set_option maxRecDepth 20000 in
theorem gX10_against_X10_walk : GoodIn wsX10_against (wsV RX10 216 RX10 yX10_walk wsX10_walk) := goodIn_app (goodIn_r _ [89, 90, 91, 10] rfl (by decide +kernel)) ggX10_against_X10_walk
theorem dX10_against_42 : decode cX10_against 42 = .ok (.invokevirtual 216, 3) := by decide +kernel
theorem dX10_against_45 : decode cX10_against 45 = .ok (.aload_n 0, 1) := by decide +kernel
theorem dX10_against_46 : decode cX10_against 46 = .ok (.aload_n 0, 1) := by decide +kernel
theorem dX10_against_47 : decode cX10_against 47 = .ok (.getfield 210, 3) := by decide +kernel
theorem dX10_against_50 : decode cX10_against 50 = .ok (.aload_n 0, 1) := by decide +kernel
theorem dX10_against_51 : decode cX10_against 51 = .ok (.getfield 213, 3) := by decide +kernel
theorem dX10_against_54 : decode cX10_against 54 = .ok (.aload_n 0, 1) := by decide +kernel
theorem dX10_against_55 : decode cX10_against 55 = .ok (.getfield 51, 3) := by decide +kernel
set_option maxRecDepth 20000 in
theorem ggX10_against_X10_findHeights : GoodIn wsX10_against wsX10_findHeights := goodIn_r _ [96, 97, 98, 99, 100, 10, 101, 12, 35, 36, 37, 38, 39, 40, 41, 42, 43, 102, 103, 104, 105, 106, 107, 108, 109, 110, 111, 112, 113, 114, 115, 116, 117, 118, 119, 120, 121, 122, 123, 124, 125, 126, 127, 128, 129, 130, 131, 132, 133, 134, 135, 136, 137, 138, 139, 140, 141, 142, 143, 144, 145] rfl (by decide +kernel)
set_option maxRecDepth 20000 in
theorem gX10_against_X10_findHeights : GoodIn wsX10_against (wsV RX10 256 RX10 yX10_findHeights wsX10_findHeights) := goodIn_app (goodIn_r _ [93, 94, 95, 10] rfl (by decide +kernel)) ggX10_against_X10_findHeights
theorem dX10_against_58 : decode cX10_against 58 = .ok (.invokevirtual 256, 3) := by decide +kernel
theorem dX10_against_61 : decode cX10_against 61 = .ok (.aload_n 0, 1) := by decide +kernel
theorem dX10_against_62 : decode cX10_against 62 = .ok (.iload_n 1, 1) := by decide +kernel
theorem dX10_against_63 : decode cX10_against 63 = .ok (.invokevirtual 216, 3) := by decide +kernel
theorem dX10_against_66 : decode cX10_against 66 = .ok (.aload_n 0, 1) := by decide +kernel
theorem dX10_against_67 : decode cX10_against 67 = .ok (.aload_n 0, 1) := by decide +kernel
theorem dX10_against_68 : decode cX10_against 68 = .ok (.getfield 210, 3) := by decide +kernel
theorem dX10_against_71 : decode cX10_against 71 = .ok (.aload_n 0, 1) := by decide +kernel
theorem dX10_against_72 : decode cX10_against 72 = .ok (.getfield 213, 3) := by decide +kernel
theorem dX10_against_75 : decode cX10_against 75 = .ok (.aload_n 0, 1) := by decide +kernel
theorem dX10_against_76 : decode cX10_against 76 = .ok (.getfield 48, 3) := by decide +kernel
theorem dX10_against_79 : decode cX10_against 79 = .ok (.invokevirtual 256, 3) := by decide +kernel
theorem dX10_against_82 : decode cX10_against 82 = .ok (.iconst 0, 1) := by decide +kernel
theorem dX10_against_83 : decode cX10_against 83 = .ok (.ireturn, 1) := by decide +kernel
theorem dX10_against_7 : decode cX10_against 7 = .ok (.ldc 133, 2) := by decide +kernel
theorem dX10_against_9 : decode cX10_against 9 = .ok (.ireturn, 1) := by decide +kernel
set_option maxRecDepth 20000 in
theorem ihX10_against_10 : ∀ w ∈ u_ws RX10 TX10 30, w ∈ wsX10_against := fun _ h => List.mem_cons_of_mem _ (List.mem_append_right _ h)
set_option maxHeartbeats 4000000 in
set_option maxRecDepth 100000 in
theorem t_X10_against (l : Launch) (D : va_G) (cy : Nat → ClassId) (a : Nat → Nat) (sz : Nat) (J : Nat → Int64) (I : Nat → Int32) (R : Nat → Nat → Int32) (RJ : Nat → Nat → Int64) (x0 : Int32) (x1 : Int32) (hM : MI I R) : Met l yX10_against wsX10_against ({ frames := 6, cells := 0, slots := 0, locals := 136 }) (va_Pc [.ref (a 0), .int x0, .int x1] (PW D cy sz (MW cy a J I R RJ))) (va_Qi (fun r (u : MS) => ∃ (w0 : Int64), ∃ (w1 : Int64), ∃ (w2 : Int64), ∃ (w3 : Int64), ∃ (w4 : Int64), ∃ (w5 : Nat → Int32), ∃ (w6 : Nat → Int32), ∃ (w7 : Nat → Int32), ∃ (w8 : Nat → Int32), (True) ∧ u = ((va_up (va_up (va_up (va_up (va_up J 19 w0) 20 w1) 21 w2) 22 w3) 23 w4), I, (va_up (va_up (va_up (va_up R 11 w5) 12 w6) 13 w7) 14 w8), RJ)) (BW D (va_A (MW cy a J I R RJ) sz) (MWu cy a)) (va_A (MW cy a J I R RJ) sz)) 0 0 (va_A (MW cy a J I R RJ) sz) := by
  refine Met.ofW (cc := cX10_against) (maxL := 4) (ret := (some .int)) (by decide) rfl ?_
  intro p e s m args below meth c s₁ B hml hv
  obtain ⟨rfl, rfl, hP, hK, hN, hD0⟩ := hv
  have hx := B.exec
  have hb := B.bytes
  have hr := B.returns
  have hts := atoms_spec (ws := wsX10_against) B.pre
  have hown : s.vm.findClass RX10 = some m.cls := findClass_of_methodNamed B.named
  have hlocks := B.notSynchronized
  have hw0 := hts (.constant RX10 141 (-100001)) (by decide +kernel)
  have hw1 := hts (.fieldLink RX10 210 "ParquetLayerModel" "walkAlong" "J") (by decide +kernel)
  have hw2 := hts (.fieldLink RX10 213 "ParquetLayerModel" "walkAcross" "J") (by decide +kernel)
  have hw3 := hts (.fieldLink RX10 51 "ParquetLayerModel" "two" "[I") (by decide +kernel)
  have hw4 := hts (.fieldLink RX10 48 "ParquetLayerModel" "one" "[I") (by decide +kernel)
  have hw5 := hts (.constant RX10 133 (-100004)) (by decide +kernel)
  have hi10 := ihX10_against_10
  have hD := hD0.self (sz := s.heap.size)
  generalize hAe : va_A (MW cy a J I R RJ) s.heap.size = A at hD ⊢
  have hA : ∀ q : Nat, s.heap.size ≤ q → A q := fun q h => by rw [← hAe]; exact Or.inr h
  have hS : va_S A s.heap s.heap [] := va_S.rf
  have hl := lv_entry ([.ref (a 0), .int x0, .int x1]) (n := 4) (Nat.le_of_ble_eq_true rfl)
  rw [lg_entry_eq]
  generalize (lg_sl ([.ref (a 0), .int x0, .int x1]) ++ List.replicate (4 - (lg_sl ([.ref (a 0), .int x0, .int x1])).length) Slot.unset).toArray = ls at hl ⊢
  have hl : lv_has ls 4 [(0, .ref (a 0)), (1, .int x0), (2, .int x1)] := hl
  have hP : va_P D vwCl (MW cy a (va_up (va_up (va_up (va_up (va_up J 19 (J 19)) 20 (J 20)) 21 (J 21)) 22 (J 22)) 23 (J 23)) I (va_up (va_up (va_up (va_up R 11 (R 11)) 12 (R 12)) 13 (R 13)) 14 (R 14)) RJ) s.heap := hP
  have hD : va_D A (MW cy a (va_up (va_up (va_up (va_up (va_up J 19 (J 19)) 20 (J 20)) 21 (J 21)) 22 (J 22)) 23 (J 23)) I (va_up (va_up (va_up (va_up R 11 (R 11)) 12 (R 12)) 13 (R 13)) 14 (R 14)) RJ) := hD
  refine lv_aload_n hx hb dX10_against_0 rfl (lv_at hl 0 rfl) ?_
  refine kM_i (As := []) (rest := []) (q0 := 0) ⟨hx, hb, hml, hown, hts⟩ (t_X10_isWhole l D cy a _ (va_up (va_up (va_up (va_up (va_up J 19 (J 19)) 20 (J 20)) 21 (J 21)) 22 (J 22)) 23 (J 23)) I (va_up (va_up (va_up (va_up R 11 (R 11)) 12 (R 12)) 13 (R 13)) 14 (R 14)) RJ   ⟨hM.1, hM.2.1, hM.2.2.1, hM.2.2.2.1, hM.2.2.2.2.1, hM.2.2.2.2.2⟩) (cwV 0 hts gX10_against_X10_isWhole rfl rfl rfl (by decide +kernel) ⟨Nat.le_of_ble_eq_true rfl, Nat.le_of_ble_eq_true rfl⟩) hK hN hP hD hS hA rfl rfl rfl hl.1 rfl (Nat.le_of_ble_eq_true rfl) dX10_against_1 ⟨Nat.le_of_ble_eq_true rfl, Nat.le_of_ble_eq_true rfl⟩ (fun r_1 u H locs hw hP hD hS => ?_)
  obtain ⟨w_2, zb_3, ⟨rfl, hp_4⟩, rfl⟩ := hw
  have hP : va_P D vwCl (MW cy a (va_up (va_up (va_up (va_up (va_up J 19 (J 19)) 20 (J 20)) 21 (J 21)) 22 (J 22)) 23 (J 23)) I (va_up (va_up (va_up (va_up R 11 w_2) 12 (R 12)) 13 (R 13)) 14 (R 14)) RJ) H := hP
  have hD : va_D A (MW cy a (va_up (va_up (va_up (va_up (va_up J 19 (J 19)) 20 (J 20)) 21 (J 21)) 22 (J 22)) 23 (J 23)) I (va_up (va_up (va_up (va_up R 11 w_2) 12 (R 12)) 13 (R 13)) 14 (R 14)) RJ) := hD
  refine lv_if_ne (tgt := 10) hx hb dX10_against_4 (by decide) (fun c_5 => ?_) (fun c_5 => ?_)
  · replace c_5 := bI_t c_5
    refine lv_aload_n hx hb dX10_against_10 rfl (lv_at hl 0 rfl) ?_
    refine kM_i (As := []) (rest := []) (q0 := 0) ⟨hx, hb, hml, hown, hts⟩ (t_X10_countAll l D cy a _ (va_up (va_up (va_up (va_up (va_up J 19 (J 19)) 20 (J 20)) 21 (J 21)) 22 (J 22)) 23 (J 23)) I (va_up (va_up (va_up (va_up R 11 w_2) 12 (R 12)) 13 (R 13)) 14 (R 14)) RJ   ⟨hM.1, hM.2.1, hM.2.2.1, hM.2.2.2.1, hM.2.2.2.2.1, hM.2.2.2.2.2⟩) (cwV 0 hts gX10_against_X10_countAll rfl rfl rfl (by decide +kernel) ⟨Nat.le_of_ble_eq_true rfl, Nat.le_of_ble_eq_true rfl⟩) hK hN hP hD hS hA rfl rfl rfl hl.1 rfl (Nat.le_of_ble_eq_true rfl) dX10_against_11 ⟨Nat.le_of_ble_eq_true rfl, Nat.le_of_ble_eq_true rfl⟩ (fun r_6 u H locs hw hP hD hS => ?_)
    obtain ⟨w_7, w_8, w_9, w_10, ⟨hp_11, hp_12⟩, rfl⟩ := hw
    have hP : va_P D vwCl (MW cy a (va_up (va_up (va_up (va_up (va_up J 19 w_7) 20 w_8) 21 w_9) 22 (J 22)) 23 (J 23)) I (va_up (va_up (va_up (va_up R 11 w_2) 12 w_10) 13 (R 13)) 14 (R 14)) RJ) H := hP
    have hD : va_D A (MW cy a (va_up (va_up (va_up (va_up (va_up J 19 w_7) 20 w_8) 21 w_9) 22 (J 22)) 23 (J 23)) I (va_up (va_up (va_up (va_up R 11 w_2) 12 w_10) 13 (R 13)) 14 (R 14)) RJ) := hD
    refine lv_istore_n (lv' := [(3, .int r_6), (0, .ref (a 0)), (1, .int x0), (2, .int x1)]) hx hb dX10_against_14 rfl hl (by decide) rfl (fun ls hl => ?_)
    refine lv_iload_n hx hb dX10_against_15 rfl (lv_at hl 2 rfl) ?_
    refine lv_iconst (v := 0) hx hb dX10_against_16 (by decide) ?_
    refine lv_iload_n hx hb dX10_against_17 rfl (lv_at hl 0 rfl) ?_
    refine lv_iconst (v := 1) hx hb dX10_against_18 (by decide) ?_
    refine lv_isub hx hb dX10_against_19 ?_
    refine kS_i (As := [.int x0, .int 0, .int (r_6 - 1)]) (rest := []) ⟨hx, hb, hml, hown, hts⟩ (c_X10_within l x0 0 (r_6 - 1)) (va_cwS 3 hts gX10_against_X10_within rfl rfl rfl (by decide +kernel) ⟨Nat.le_of_ble_eq_true rfl, Nat.le_of_ble_eq_true rfl⟩) rfl hl.1 rfl (Nat.le_of_ble_eq_true rfl) dX10_against_20 ⟨Nat.le_of_ble_eq_true rfl, Nat.le_of_ble_eq_true rfl⟩ ?_
    refine lv_if_eq (tgt := 37) hx hb dX10_against_23 (by decide) (fun c_13 => ?_) (fun c_13 => ?_)
    · replace c_13 := bI_f c_13
      refine lv_ldc (v := (-100001)) hx hb hown hw0 dX10_against_37 ?_
      exact wret_i hx hb hr hlocks ((va_up (va_up (va_up (va_up (va_up J 19 w_7) 20 w_8) 21 w_9) 22 (J 22)) 23 (J 23)), I, (va_up (va_up (va_up (va_up R 11 w_2) 12 w_10) 13 (R 13)) 14 (R 14)), RJ) ⟨w_7, w_8, w_9, (J 22), (J 23), w_2, w_10, (R 13), (R 14), trivial, rfl⟩ hP hD hS dX10_against_39
    · replace c_13 := bI_t c_13
      refine lv_iload_n hx hb dX10_against_26 rfl (lv_at hl 3 rfl) ?_
      refine lv_iconst (v := 0) hx hb dX10_against_27 (by decide) ?_
      refine lv_iload_n hx hb dX10_against_28 rfl (lv_at hl 0 rfl) ?_
      refine lv_iconst (v := 1) hx hb dX10_against_29 (by decide) ?_
      refine lv_isub hx hb dX10_against_30 ?_
      refine kS_i (As := [.int x1, .int 0, .int (r_6 - 1)]) (rest := []) ⟨hx, hb, hml, hown, hts⟩ (c_X10_within l x1 0 (r_6 - 1)) (va_cwS 3 hts gX10_against_X10_within rfl rfl rfl (by decide +kernel) ⟨Nat.le_of_ble_eq_true rfl, Nat.le_of_ble_eq_true rfl⟩) rfl hl.1 rfl (Nat.le_of_ble_eq_true rfl) dX10_against_31 ⟨Nat.le_of_ble_eq_true rfl, Nat.le_of_ble_eq_true rfl⟩ ?_
      refine lv_if_ne (tgt := 40) hx hb dX10_against_34 (by decide) (fun c_14 => ?_) (fun c_14 => ?_)
      · replace c_14 := bI_t c_14
        refine lv_aload_n hx hb dX10_against_40 rfl (lv_at hl 1 rfl) ?_
        refine lv_iload_n hx hb dX10_against_41 rfl (lv_at hl 3 rfl) ?_
        refine kM_v (As := [.int x1]) (rest := []) (q0 := 0) ⟨hx, hb, hml, hown, hts⟩ (t_X10_walk l D cy a _ (va_up (va_up (va_up (va_up (va_up J 19 w_7) 20 w_8) 21 w_9) 22 (J 22)) 23 (J 23)) I (va_up (va_up (va_up (va_up R 11 w_2) 12 w_10) 13 (R 13)) 14 (R 14)) RJ x1  ) (cwV 1 hts gX10_against_X10_walk rfl rfl rfl (by decide +kernel) ⟨Nat.le_of_ble_eq_true rfl, Nat.le_of_ble_eq_true rfl⟩) hK hN hP hD hS hA rfl rfl rfl hl.1 rfl (Nat.le_of_ble_eq_true rfl) dX10_against_42 ⟨Nat.le_of_ble_eq_true rfl, Nat.le_of_ble_eq_true rfl⟩ (fun u H locs hw hP hD hS => ?_)
        obtain ⟨w_16, w_17, -, rfl⟩ := hw
        have hP : va_P D vwCl (MW cy a (va_up (va_up (va_up (va_up (va_up J 19 w_7) 20 w_8) 21 w_9) 22 w_16) 23 w_17) I (va_up (va_up (va_up (va_up R 11 w_2) 12 w_10) 13 (R 13)) 14 (R 14)) RJ) H := hP
        have hD : va_D A (MW cy a (va_up (va_up (va_up (va_up (va_up J 19 w_7) 20 w_8) 21 w_9) 22 w_16) 23 w_17) I (va_up (va_up (va_up (va_up R 11 w_2) 12 w_10) 13 (R 13)) 14 (R 14)) RJ) := hD
        refine lv_aload_n hx hb dX10_against_45 rfl (lv_at hl 1 rfl) ?_
        refine lv_aload_n hx hb dX10_against_46 rfl (lv_at hl 1 rfl) ?_
        refine va_get (D := D) (ci := 9) (v := .long w_16) (C := RX10) (T := TX10) (N := 30) hx hb hts hi10 hown hK hP 0 rfl rfl 22 (by decide) hw1 (fun _ h9 => h9) rfl dX10_against_47 ?_
        refine lv_aload_n hx hb dX10_against_50 rfl (lv_at hl 1 rfl) ?_
        refine va_get (D := D) (ci := 9) (v := .long w_17) (C := RX10) (T := TX10) (N := 30) hx hb hts hi10 hown hK hP 0 rfl rfl 23 (by decide) hw2 (fun _ h9 => h9) rfl dX10_against_51 ?_
        refine lv_aload_n hx hb dX10_against_54 rfl (lv_at hl 1 rfl) ?_
        refine va_get (D := D) (ci := 9) (v := .ref (a 14)) (C := RX10) (T := TX10) (N := 30) hx hb hts hi10 hown hK hP 0 rfl rfl 25 (by decide) hw3 (fun _ h9 => h9) rfl dX10_against_55 ?_
        refine kM_v (As := [.long w_16, .long w_17, .ref (a 14)]) (rest := []) (q0 := 0) ⟨hx, hb, hml, hown, hts⟩ (t_X10_findHeights14 l D cy a _ (va_up (va_up (va_up (va_up (va_up J 19 w_7) 20 w_8) 21 w_9) 22 w_16) 23 w_17) I (va_up (va_up (va_up (va_up R 11 w_2) 12 w_10) 13 (R 13)) 14 (R 14)) RJ w_16 w_17 (hp_4 c_5) ) (cwV 3 hts gX10_against_X10_findHeights rfl rfl rfl (by decide +kernel) ⟨Nat.le_of_ble_eq_true rfl, Nat.le_of_ble_eq_true rfl⟩) hK hN hP hD hS hA rfl rfl rfl hl.1 rfl (Nat.le_of_ble_eq_true rfl) dX10_against_58 ⟨Nat.le_of_ble_eq_true rfl, Nat.le_of_ble_eq_true rfl⟩ (fun u H locs hw hP hD hS => ?_)
        obtain ⟨w_19, -, rfl⟩ := hw
        have hP : va_P D vwCl (MW cy a (va_up (va_up (va_up (va_up (va_up J 19 w_7) 20 w_8) 21 w_9) 22 w_16) 23 w_17) I (va_up (va_up (va_up (va_up R 11 w_2) 12 w_10) 13 (R 13)) 14 w_19) RJ) H := hP
        have hD : va_D A (MW cy a (va_up (va_up (va_up (va_up (va_up J 19 w_7) 20 w_8) 21 w_9) 22 w_16) 23 w_17) I (va_up (va_up (va_up (va_up R 11 w_2) 12 w_10) 13 (R 13)) 14 w_19) RJ) := hD
        refine lv_aload_n hx hb dX10_against_61 rfl (lv_at hl 1 rfl) ?_
        refine lv_iload_n hx hb dX10_against_62 rfl (lv_at hl 2 rfl) ?_
        refine kM_v (As := [.int x0]) (rest := []) (q0 := 0) ⟨hx, hb, hml, hown, hts⟩ (t_X10_walk l D cy a _ (va_up (va_up (va_up (va_up (va_up J 19 w_7) 20 w_8) 21 w_9) 22 w_16) 23 w_17) I (va_up (va_up (va_up (va_up R 11 w_2) 12 w_10) 13 (R 13)) 14 w_19) RJ x0  ) (cwV 1 hts gX10_against_X10_walk rfl rfl rfl (by decide +kernel) ⟨Nat.le_of_ble_eq_true rfl, Nat.le_of_ble_eq_true rfl⟩) hK hN hP hD hS hA rfl rfl rfl hl.1 rfl (Nat.le_of_ble_eq_true rfl) dX10_against_63 ⟨Nat.le_of_ble_eq_true rfl, Nat.le_of_ble_eq_true rfl⟩ (fun u H locs hw hP hD hS => ?_)
        obtain ⟨w_21, w_22, -, rfl⟩ := hw
        have hP : va_P D vwCl (MW cy a (va_up (va_up (va_up (va_up (va_up J 19 w_7) 20 w_8) 21 w_9) 22 w_21) 23 w_22) I (va_up (va_up (va_up (va_up R 11 w_2) 12 w_10) 13 (R 13)) 14 w_19) RJ) H := hP
        have hD : va_D A (MW cy a (va_up (va_up (va_up (va_up (va_up J 19 w_7) 20 w_8) 21 w_9) 22 w_21) 23 w_22) I (va_up (va_up (va_up (va_up R 11 w_2) 12 w_10) 13 (R 13)) 14 w_19) RJ) := hD
        refine lv_aload_n hx hb dX10_against_66 rfl (lv_at hl 1 rfl) ?_
        refine lv_aload_n hx hb dX10_against_67 rfl (lv_at hl 1 rfl) ?_
        refine va_get (D := D) (ci := 9) (v := .long w_21) (C := RX10) (T := TX10) (N := 30) hx hb hts hi10 hown hK hP 0 rfl rfl 22 (by decide) hw1 (fun _ h9 => h9) rfl dX10_against_68 ?_
        refine lv_aload_n hx hb dX10_against_71 rfl (lv_at hl 1 rfl) ?_
        refine va_get (D := D) (ci := 9) (v := .long w_22) (C := RX10) (T := TX10) (N := 30) hx hb hts hi10 hown hK hP 0 rfl rfl 23 (by decide) hw2 (fun _ h9 => h9) rfl dX10_against_72 ?_
        refine lv_aload_n hx hb dX10_against_75 rfl (lv_at hl 1 rfl) ?_
        refine va_get (D := D) (ci := 9) (v := .ref (a 13)) (C := RX10) (T := TX10) (N := 30) hx hb hts hi10 hown hK hP 0 rfl rfl 24 (by decide) hw4 (fun _ h9 => h9) rfl dX10_against_76 ?_
        refine kM_v (As := [.long w_21, .long w_22, .ref (a 13)]) (rest := []) (q0 := 0) ⟨hx, hb, hml, hown, hts⟩ (t_X10_findHeights13 l D cy a _ (va_up (va_up (va_up (va_up (va_up J 19 w_7) 20 w_8) 21 w_9) 22 w_21) 23 w_22) I (va_up (va_up (va_up (va_up R 11 w_2) 12 w_10) 13 (R 13)) 14 w_19) RJ w_21 w_22 (hp_4 c_5) ) (cwV 3 hts gX10_against_X10_findHeights rfl rfl rfl (by decide +kernel) ⟨Nat.le_of_ble_eq_true rfl, Nat.le_of_ble_eq_true rfl⟩) hK hN hP hD hS hA rfl rfl rfl hl.1 rfl (Nat.le_of_ble_eq_true rfl) dX10_against_79 ⟨Nat.le_of_ble_eq_true rfl, Nat.le_of_ble_eq_true rfl⟩ (fun u H locs hw hP hD hS => ?_)
        obtain ⟨w_24, -, rfl⟩ := hw
        have hP : va_P D vwCl (MW cy a (va_up (va_up (va_up (va_up (va_up J 19 w_7) 20 w_8) 21 w_9) 22 w_21) 23 w_22) I (va_up (va_up (va_up (va_up R 11 w_2) 12 w_10) 13 w_24) 14 w_19) RJ) H := hP
        have hD : va_D A (MW cy a (va_up (va_up (va_up (va_up (va_up J 19 w_7) 20 w_8) 21 w_9) 22 w_21) 23 w_22) I (va_up (va_up (va_up (va_up R 11 w_2) 12 w_10) 13 w_24) 14 w_19) RJ) := hD
        refine lv_iconst (v := 0) hx hb dX10_against_82 (by decide) ?_
        exact wret_i hx hb hr hlocks ((va_up (va_up (va_up (va_up (va_up J 19 w_7) 20 w_8) 21 w_9) 22 w_21) 23 w_22), I, (va_up (va_up (va_up (va_up R 11 w_2) 12 w_10) 13 w_24) 14 w_19), RJ) ⟨w_7, w_8, w_9, w_21, w_22, w_2, w_10, w_24, w_19, trivial, rfl⟩ hP hD hS dX10_against_83
      · replace c_14 := bI_f c_14
        refine lv_ldc (v := (-100001)) hx hb hown hw0 dX10_against_37 ?_
        exact wret_i hx hb hr hlocks ((va_up (va_up (va_up (va_up (va_up J 19 w_7) 20 w_8) 21 w_9) 22 (J 22)) 23 (J 23)), I, (va_up (va_up (va_up (va_up R 11 w_2) 12 w_10) 13 (R 13)) 14 (R 14)), RJ) ⟨w_7, w_8, w_9, (J 22), (J 23), w_2, w_10, (R 13), (R 14), trivial, rfl⟩ hP hD hS dX10_against_39
  · replace c_5 := bI_f c_5
    refine lv_ldc (v := (-100004)) hx hb hown hw5 dX10_against_7 ?_
    exact wret_i hx hb hr hlocks ((va_up (va_up (va_up (va_up (va_up J 19 (J 19)) 20 (J 20)) 21 (J 21)) 22 (J 22)) 23 (J 23)), I, (va_up (va_up (va_up (va_up R 11 w_2) 12 (R 12)) 13 (R 13)) 14 (R 14)), RJ) ⟨(J 19), (J 20), (J 21), (J 22), (J 23), w_2, (R 12), (R 13), (R 14), trivial, rfl⟩ hP hD hS dX10_against_9
theorem dX10_apartNow_4 : decode cX10_apartNow 4 = .ok (.iload_n 2, 1) := by decide +kernel
theorem dX10_apartNow_5 : decode cX10_apartNow 5 = .ok (.bipush 81, 2) := by decide +kernel
theorem dX10_apartNow_7 : decode cX10_apartNow 7 = .ok (.if_icmp .ge 28, 3) := by decide +kernel
theorem dX10_apartNow_35 : decode cX10_apartNow 35 = .ok (.iload_n 1, 1) := by decide +kernel
theorem dX10_apartNow_36 : decode cX10_apartNow 36 = .ok (.iconst 4, 1) := by decide +kernel
theorem dX10_apartNow_37 : decode cX10_apartNow 37 = .ok (.idiv, 1) := by decide +kernel
theorem dX10_apartNow_38 : decode cX10_apartNow 38 = .ok (.ireturn, 1) := by decide +kernel
theorem dX10_apartNow_10 : decode cX10_apartNow 10 = .ok (.iload_n 1, 1) := by decide +kernel
theorem dX10_apartNow_11 : decode cX10_apartNow 11 = .ok (.aload_n 0, 1) := by decide +kernel
theorem dX10_apartNow_12 : decode cX10_apartNow 12 = .ok (.getfield 48, 3) := by decide +kernel
theorem dX10_apartNow_15 : decode cX10_apartNow 15 = .ok (.iload_n 2, 1) := by decide +kernel
theorem dX10_apartNow_16 : decode cX10_apartNow 16 = .ok (.iaload, 1) := by decide +kernel
theorem dX10_apartNow_17 : decode cX10_apartNow 17 = .ok (.aload_n 0, 1) := by decide +kernel
theorem dX10_apartNow_18 : decode cX10_apartNow 18 = .ok (.getfield 51, 3) := by decide +kernel
theorem dX10_apartNow_21 : decode cX10_apartNow 21 = .ok (.iload_n 2, 1) := by decide +kernel
theorem dX10_apartNow_22 : decode cX10_apartNow 22 = .ok (.iaload, 1) := by decide +kernel
theorem dX10_apartNow_23 : decode cX10_apartNow 23 = .ok (.isub, 1) := by decide +kernel
theorem dX10_apartNow_24 : decode cX10_apartNow 24 = .ok (.invokestatic 263, 3) := by decide +kernel
theorem dX10_apartNow_27 : decode cX10_apartNow 27 = .ok (.iadd, 1) := by decide +kernel
theorem dX10_apartNow_28 : decode cX10_apartNow 28 = .ok (.istore_n 1, 1) := by decide +kernel
theorem dX10_apartNow_29 : decode cX10_apartNow 29 = .ok (.iinc 2 1, 3) := by decide +kernel
theorem dX10_apartNow_32 : decode cX10_apartNow 32 = .ok (.goto (-28), 3) := by decide +kernel
theorem dX10_apartNow_0 : decode cX10_apartNow 0 = .ok (.iconst 0, 1) := by decide +kernel
theorem dX10_apartNow_1 : decode cX10_apartNow 1 = .ok (.istore_n 1, 1) := by decide +kernel
theorem dX10_apartNow_2 : decode cX10_apartNow 2 = .ok (.iconst 0, 1) := by decide +kernel
theorem dX10_apartNow_3 : decode cX10_apartNow 3 = .ok (.istore_n 2, 1) := by decide +kernel
set_option maxRecDepth 20000 in
theorem ihX10_apartNow_10 : ∀ w ∈ u_ws RX10 TX10 30, w ∈ wsX10_apartNow := fun _ h => List.mem_cons_of_mem _ (List.mem_append_right _ h)
set_option maxHeartbeats 4000000 in
set_option maxRecDepth 100000 in
theorem t_X10_apartNow (l : Launch) (D : va_G) (cy : Nat → ClassId) (a : Nat → Nat) (sz : Nat) (J : Nat → Int64) (I : Nat → Int32) (R : Nat → Nat → Int32) (RJ : Nat → Nat → Int64)  : Met l yX10_apartNow wsX10_apartNow ({ frames := 1, cells := 0, slots := 0, locals := 29 }) (va_Pc [.ref (a 0)] (PW D cy sz (MW cy a J I R RJ))) (va_Qi (fun r (u : MS) => ((r.toInt < 1000000000 ∧ -1000000000 < r.toInt)) ∧ u = (J, I, R, RJ)) (BW D (va_A (MW cy a J I R RJ) sz) (MWu cy a)) (va_A (MW cy a J I R RJ) sz)) 0 0 (va_A (MW cy a J I R RJ) sz) := by
  refine Met.ofW (cc := cX10_apartNow) (maxL := 3) (ret := (some .int)) (by decide) rfl ?_
  intro p e s m args below meth c s₁ B hml hv
  obtain ⟨rfl, rfl, hP, hK, hN, hD0⟩ := hv
  have hx := B.exec
  have hb := B.bytes
  have hr := B.returns
  have hts := atoms_spec (ws := wsX10_apartNow) B.pre
  have hown : s.vm.findClass RX10 = some m.cls := findClass_of_methodNamed B.named
  have hlocks := B.notSynchronized
  have hw0 := hts (.fieldLink RX10 48 "ParquetLayerModel" "one" "[I") (by decide +kernel)
  have hw1 := hts (.fieldLink RX10 51 "ParquetLayerModel" "two" "[I") (by decide +kernel)
  have hw2 := hts (.methodLink RX10 263 Lib.Math.abs.name) (by decide +kernel)
  have hw3 := hts (.static Lib.Math.abs.name) (by decide +kernel)
  have hw4 := hts (.initialized "java/lang/Math") (by decide +kernel)
  have hw5 := hts (.code Lib.Math.abs.name Lib.Math.abs.code 1 (some .int)) (by decide +kernel)
  have hi10 := ihX10_apartNow_10
  have hD := hD0.self (sz := s.heap.size)
  generalize hAe : va_A (MW cy a J I R RJ) s.heap.size = A at hD ⊢
  have hA : ∀ q : Nat, s.heap.size ≤ q → A q := fun q h => by rw [← hAe]; exact Or.inr h
  have hS : va_S A s.heap s.heap [] := va_S.rf
  have hl := lv_entry ([.ref (a 0)]) (n := 3) (Nat.le_of_ble_eq_true rfl)
  rw [lg_entry_eq]
  generalize (lg_sl ([.ref (a 0)]) ++ List.replicate (3 - (lg_sl ([.ref (a 0)])).length) Slot.unset).toArray = ls at hl ⊢
  have hl : lv_has ls 3 [(0, .ref (a 0))] := hl
  have lp4 : ∀ (n4 : Nat), ∀ (i : Nat) (v1_4 : Int32), (i ≤ 81) → (81 - i) < n4 → ∀ (H : Heap) (locs : List Loc), va_P D vwCl (MW cy a J I R RJ) H → va_D A (MW cy a J I R RJ) → va_S A s.heap H locs → ∀ (ls : Array Slot), lv_has ls 3 [(0, .ref (a 0)), (1, .int v1_4), (2, .int (nI i))] → W p l e (headSpec wsX10_apartNow ({ frames := 1, cells := 0, slots := 0, locals := 29 })).room s m ([.ref (a 0)] : List Value).toArray below meth c H locs 0 0 (MQ below (va_Qi (fun r (u : MS) => ((r.toInt < 1000000000 ∧ -1000000000 < r.toInt)) ∧ u = (J, I, R, RJ)) (BW D A (MWu cy a)) A) ([.ref (a 0)] : List Value).toArray s 0 0 A) (F0 m 4 ls []) := by
    intro n4
    induction n4 with
    | zero => intro i v1_4 hi hn; exact absurd hn (Nat.not_lt_zero _)
    | succ n4 ih4 =>
      intro i v1_4 hi hn4 H locs hP hD hS ls hl
      refine lv_iload_n hx hb dX10_apartNow_4 rfl (lv_at hl 2 rfl) ?_
      refine lv_bipush (v := 81) hx hb dX10_apartNow_5 (by decide) ?_
      refine lv_icmp_ge (tgt := 35) hx hb dX10_apartNow_7 (by decide) (fun c_1 => ?_) (fun c_1 => ?_)
      · refine lv_iload_n hx hb dX10_apartNow_35 rfl (lv_at hl 1 rfl) ?_
        refine lv_iconst (v := 4) hx hb dX10_apartNow_36 (by decide) ?_
        refine lv_idiv hx hb dX10_apartNow_37 (by decide) ?_
        exact wret_i hx hb hr hlocks (J, I, R, RJ) ⟨(div4 _), rfl⟩ hP hD hS dX10_apartNow_38
      · have hlt_i := ctr_lt (N := 81) (by decide) hi c_1
        refine lv_iload_n hx hb dX10_apartNow_10 rfl (lv_at hl 1 rfl) ?_
        refine lv_aload_n hx hb dX10_apartNow_11 rfl (lv_at hl 0 rfl) ?_
        refine va_get (D := D) (ci := 9) (v := .ref (a 13)) (C := RX10) (T := TX10) (N := 30) hx hb hts hi10 hown hK hP 0 rfl rfl 24 (by decide) hw0 (fun _ h9 => h9) rfl dX10_apartNow_12 ?_
        refine lv_iload_n hx hb dX10_apartNow_15 rfl (lv_at hl 2 rfl) ?_
        refine va_iald hx hb hK hP 13 0 rfl rfl (vp_in_nI hlt_i (by decide)) dX10_apartNow_16 ?_
        refine lv_aload_n hx hb dX10_apartNow_17 rfl (lv_at hl 0 rfl) ?_
        refine va_get (D := D) (ci := 9) (v := .ref (a 14)) (C := RX10) (T := TX10) (N := 30) hx hb hts hi10 hown hK hP 0 rfl rfl 25 (by decide) hw1 (fun _ h9 => h9) rfl dX10_apartNow_18 ?_
        refine lv_iload_n hx hb dX10_apartNow_21 rfl (lv_at hl 2 rfl) ?_
        refine va_iald hx hb hK hP 14 0 rfl rfl (vp_in_nI hlt_i (by decide)) dX10_apartNow_22 ?_
        refine lv_isub hx hb dX10_apartNow_23 ?_
        refine va_mabs hx hb (by rw [hml]; exact hl.1.symm) hown hw2 hw3 hw4 hw5 (Nat.le_of_ble_eq_true rfl) (Nat.le_of_ble_eq_true rfl) (Nat.le_of_ble_eq_true rfl) (Nat.le_of_ble_eq_true rfl) dX10_apartNow_24 ?_
        refine lv_iadd hx hb dX10_apartNow_27 ?_
        refine lv_istore_n (lv' := [(1, .int (v1_4 + (if 0 ≤ (((R 13) (nI i).toNatClampNeg) - ((R 14) (nI i).toNatClampNeg)) then (((R 13) (nI i).toNatClampNeg) - ((R 14) (nI i).toNatClampNeg)) else 0 - (((R 13) (nI i).toNatClampNeg) - ((R 14) (nI i).toNatClampNeg))))), (0, .ref (a 0)), (2, .int (nI i))]) hx hb dX10_apartNow_28 rfl hl (by decide) rfl (fun ls hl => ?_)
        refine lv_iinc (v := nI (i + 1)) (lv' := [(2, .int (nI (i + 1))), (1, .int (v1_4 + (if 0 ≤ (((R 13) (nI i).toNatClampNeg) - ((R 14) (nI i).toNatClampNeg)) then (((R 13) (nI i).toNatClampNeg) - ((R 14) (nI i).toNatClampNeg)) else 0 - (((R 13) (nI i).toNatClampNeg) - ((R 14) (nI i).toNatClampNeg))))), (0, .ref (a 0))]) hx hb dX10_apartNow_29 hl (k := 2) rfl (nI_1 _) (by decide) rfl (fun ls hl => ?_)
        refine lv_goto (tgt := 4) hx hb dX10_apartNow_32 (by decide) ?_
        exact ih4 (i + 1) (v1_4 + (if 0 ≤ (((R 13) (nI i).toNatClampNeg) - ((R 14) (nI i).toNatClampNeg)) then (((R 13) (nI i).toNatClampNeg) - ((R 14) (nI i).toNatClampNeg)) else 0 - (((R 13) (nI i).toNatClampNeg) - ((R 14) (nI i).toNatClampNeg)))) (by omega) (by omega) _ _ hP hD hS ls (lv_sub hl [2, 1, 0] rfl)
  refine lv_iconst (v := 0) hx hb dX10_apartNow_0 (by decide) ?_
  refine lv_istore_n (lv' := [(1, .int 0), (0, .ref (a 0))]) hx hb dX10_apartNow_1 rfl hl (by decide) rfl (fun ls hl => ?_)
  refine lv_iconst (v := 0) hx hb dX10_apartNow_2 (by decide) ?_
  refine lv_istore_n (lv' := [(2, .int 0), (1, .int 0), (0, .ref (a 0))]) hx hb dX10_apartNow_3 rfl hl (by decide) rfl (fun ls hl => ?_)
  exact lp4 _ 0 (0 : Int32) (by omega) (Nat.lt_succ_self _) _ _ hP hD hS ls (lv_sub hl [2, 1, 0] rfl)
theorem dX10_apart_0 : decode cX10_apart 0 = .ok (.aload_n 0, 1) := by decide +kernel
theorem dX10_apart_1 : decode cX10_apart 1 = .ok (.iload_n 1, 1) := by decide +kernel
theorem dX10_apart_2 : decode cX10_apart 2 = .ok (.iload_n 2, 1) := by decide +kernel
set_option maxRecDepth 20000 in
theorem ggX10_apart_X10_against : GoodIn wsX10_apart wsX10_against := goodIn_r _ [5, 6, 7, 8, 9, 10, 11, 12, 13, 14, 4, 15, 16, 17, 18, 19, 20, 21, 22, 23, 24, 25, 26, 27, 28, 29, 30, 31, 32, 33, 34, 35, 36, 37, 38, 39, 40, 41, 42, 43, 44, 45, 46, 47, 48, 49, 50, 51, 52, 53, 54, 55, 56, 57, 58, 59, 60, 61, 62, 63, 64, 65, 66, 67, 68, 69, 70, 71, 72, 73, 74, 75, 76, 77, 78, 79, 80, 81, 82, 83, 84, 85, 86, 87, 88, 89, 90, 91, 92, 93, 94, 95, 96, 97, 98, 99, 100, 101, 102, 103, 104, 105, 106, 107, 108, 109, 110, 111, 112, 113, 114, 115, 116, 117, 118, 119, 133, 134, 135, 136, 137, 138, 139, 140, 141, 142, 143, 144, 145, 146, 147, 148, 149, 150, 151, 152, 153, 154, 155, 156, 157, 158, 159, 160, 161, 162] rfl (by decide +kernel)
set_option maxRecDepth 20000 in
theorem gX10_apart_X10_against : GoodIn wsX10_apart (wsV RX10 268 RX10 yX10_against wsX10_against) := goodIn_app (goodIn_r _ [1, 2, 3, 4] rfl (by decide +kernel)) ggX10_apart_X10_against
theorem dX10_apart_3 : decode cX10_apart 3 = .ok (.invokevirtual 268, 3) := by decide +kernel
theorem dX10_apart_6 : decode cX10_apart 6 = .ok (.istore_n 3, 1) := by decide +kernel
theorem dX10_apart_7 : decode cX10_apart 7 = .ok (.iload_n 3, 1) := by decide +kernel
theorem dX10_apart_8 : decode cX10_apart 8 = .ok (.ifCond .eq 11, 3) := by decide +kernel
theorem dX10_apart_19 : decode cX10_apart 19 = .ok (.aload_n 0, 1) := by decide +kernel
set_option maxRecDepth 20000 in
theorem ggX10_apart_X10_apartNow : GoodIn wsX10_apart wsX10_apartNow := goodIn_r _ [128, 11, 10, 129, 130, 131, 132, 133, 134, 135, 136, 137, 138, 139, 140, 141, 142, 143, 144, 145, 146, 147, 148, 149, 150, 151, 152, 153, 154, 155, 156, 157, 158, 159, 160, 161, 162] rfl (by decide +kernel)
set_option maxRecDepth 20000 in
theorem gX10_apart_X10_apartNow : GoodIn wsX10_apart (wsV RX10 271 RX10 yX10_apartNow wsX10_apartNow) := goodIn_app (goodIn_r _ [125, 126, 127, 4] rfl (by decide +kernel)) ggX10_apart_X10_apartNow
theorem dX10_apart_20 : decode cX10_apart 20 = .ok (.invokevirtual 271, 3) := by decide +kernel
theorem dX10_apart_23 : decode cX10_apart 23 = .ok (.ireturn, 1) := by decide +kernel
theorem dX10_apart_11 : decode cX10_apart 11 = .ok (.aload_n 0, 1) := by decide +kernel
theorem dX10_apart_12 : decode cX10_apart 12 = .ok (.iload_n 3, 1) := by decide +kernel
set_option maxRecDepth 20000 in
theorem ggX10_apart_X10_finding : GoodIn wsX10_apart wsX10_finding := goodIn_r _ [123, 124, 133, 134, 135, 136, 137, 138, 139, 140, 141, 142, 143, 144, 145, 146, 147, 148, 149, 150, 151, 152, 153, 154, 155, 156, 157, 158, 159, 160, 161, 162] rfl (by decide +kernel)
set_option maxRecDepth 20000 in
theorem gX10_apart_X10_finding : GoodIn wsX10_apart (wsV RX10 99 RX10 yX10_finding wsX10_finding) := goodIn_app (goodIn_r _ [120, 121, 122, 4] rfl (by decide +kernel)) ggX10_apart_X10_finding
theorem dX10_apart_13 : decode cX10_apart 13 = .ok (.invokevirtual 99, 3) := by decide +kernel
theorem dX10_apart_16 : decode cX10_apart 16 = .ok (.goto 7, 3) := by decide +kernel
set_option maxHeartbeats 4000000 in
set_option maxRecDepth 100000 in
theorem t_X10_apart (l : Launch) (D : va_G) (cy : Nat → ClassId) (a : Nat → Nat) (sz : Nat) (J : Nat → Int64) (I : Nat → Int32) (R : Nat → Nat → Int32) (RJ : Nat → Nat → Int64) (x0 : Int32) (x1 : Int32) (hM : MI I R) : Met l yX10_apart wsX10_apart ({ frames := 7, cells := 0, slots := 0, locals := 159 }) (va_Pc [.ref (a 0), .int x0, .int x1] (PW D cy sz (MW cy a J I R RJ))) (va_Qi (fun r (u : MS) => ∃ (w0 : Int64), ∃ (w1 : Int64), ∃ (w2 : Int64), ∃ (w3 : Int64), ∃ (w4 : Int64), ∃ (w5 : Int32), ∃ (w6 : Nat → Int32), ∃ (w7 : Nat → Int32), ∃ (w8 : Nat → Int32), ∃ (w9 : Nat → Int32), (True) ∧ u = ((va_up (va_up (va_up (va_up (va_up J 19 w0) 20 w1) 21 w2) 22 w3) 23 w4), (va_up I 13 w5), (va_up (va_up (va_up (va_up R 11 w6) 12 w7) 13 w8) 14 w9), RJ)) (BW D (va_A (MW cy a J I R RJ) sz) (MWu cy a)) (va_A (MW cy a J I R RJ) sz)) 0 0 (va_A (MW cy a J I R RJ) sz) := by
  refine Met.ofW (cc := cX10_apart) (maxL := 4) (ret := (some .int)) (by decide) rfl ?_
  intro p e s m args below meth c s₁ B hml hv
  obtain ⟨rfl, rfl, hP, hK, hN, hD0⟩ := hv
  have hx := B.exec
  have hb := B.bytes
  have hr := B.returns
  have hts := atoms_spec (ws := wsX10_apart) B.pre
  have hown : s.vm.findClass RX10 = some m.cls := findClass_of_methodNamed B.named
  have hlocks := B.notSynchronized
  have hD := hD0.self (sz := s.heap.size)
  generalize hAe : va_A (MW cy a J I R RJ) s.heap.size = A at hD ⊢
  have hA : ∀ q : Nat, s.heap.size ≤ q → A q := fun q h => by rw [← hAe]; exact Or.inr h
  have hS : va_S A s.heap s.heap [] := va_S.rf
  have hl := lv_entry ([.ref (a 0), .int x0, .int x1]) (n := 4) (Nat.le_of_ble_eq_true rfl)
  rw [lg_entry_eq]
  generalize (lg_sl ([.ref (a 0), .int x0, .int x1]) ++ List.replicate (4 - (lg_sl ([.ref (a 0), .int x0, .int x1])).length) Slot.unset).toArray = ls at hl ⊢
  have hl : lv_has ls 4 [(0, .ref (a 0)), (1, .int x0), (2, .int x1)] := hl
  have hP : va_P D vwCl (MW cy a (va_up (va_up (va_up (va_up (va_up J 19 (J 19)) 20 (J 20)) 21 (J 21)) 22 (J 22)) 23 (J 23)) (va_up I 13 (I 13)) (va_up (va_up (va_up (va_up R 11 (R 11)) 12 (R 12)) 13 (R 13)) 14 (R 14)) RJ) s.heap := hP
  have hD : va_D A (MW cy a (va_up (va_up (va_up (va_up (va_up J 19 (J 19)) 20 (J 20)) 21 (J 21)) 22 (J 22)) 23 (J 23)) (va_up I 13 (I 13)) (va_up (va_up (va_up (va_up R 11 (R 11)) 12 (R 12)) 13 (R 13)) 14 (R 14)) RJ) := hD
  refine lv_aload_n hx hb dX10_apart_0 rfl (lv_at hl 0 rfl) ?_
  refine lv_iload_n hx hb dX10_apart_1 rfl (lv_at hl 1 rfl) ?_
  refine lv_iload_n hx hb dX10_apart_2 rfl (lv_at hl 2 rfl) ?_
  refine kM_i (As := [.int x0, .int x1]) (rest := []) (q0 := 0) ⟨hx, hb, hml, hown, hts⟩ (t_X10_against l D cy a _ (va_up (va_up (va_up (va_up (va_up J 19 (J 19)) 20 (J 20)) 21 (J 21)) 22 (J 22)) 23 (J 23)) (va_up I 13 (I 13)) (va_up (va_up (va_up (va_up R 11 (R 11)) 12 (R 12)) 13 (R 13)) 14 (R 14)) RJ x0 x1  ⟨hM.1, hM.2.1, hM.2.2.1, hM.2.2.2.1, hM.2.2.2.2.1, hM.2.2.2.2.2⟩) (cwV 2 hts gX10_apart_X10_against rfl rfl rfl (by decide +kernel) ⟨Nat.le_of_ble_eq_true rfl, Nat.le_of_ble_eq_true rfl⟩) hK hN hP hD hS hA rfl rfl rfl hl.1 rfl (Nat.le_of_ble_eq_true rfl) dX10_apart_3 ⟨Nat.le_of_ble_eq_true rfl, Nat.le_of_ble_eq_true rfl⟩ (fun r_1 u H locs hw hP hD hS => ?_)
  obtain ⟨w_2, w_3, w_4, w_5, w_6, w_7, w_8, w_9, w_10, -, rfl⟩ := hw
  have hP : va_P D vwCl (MW cy a (va_up (va_up (va_up (va_up (va_up J 19 w_2) 20 w_3) 21 w_4) 22 w_5) 23 w_6) (va_up I 13 (I 13)) (va_up (va_up (va_up (va_up R 11 w_7) 12 w_8) 13 w_9) 14 w_10) RJ) H := hP
  have hD : va_D A (MW cy a (va_up (va_up (va_up (va_up (va_up J 19 w_2) 20 w_3) 21 w_4) 22 w_5) 23 w_6) (va_up I 13 (I 13)) (va_up (va_up (va_up (va_up R 11 w_7) 12 w_8) 13 w_9) 14 w_10) RJ) := hD
  refine lv_istore_n (lv' := [(3, .int r_1), (0, .ref (a 0)), (1, .int x0), (2, .int x1)]) hx hb dX10_apart_6 rfl hl (by decide) rfl (fun ls hl => ?_)
  refine lv_iload_n hx hb dX10_apart_7 rfl (lv_at hl 0 rfl) ?_
  refine lv_if_eq (tgt := 19) hx hb dX10_apart_8 (by decide) (fun c_11 => ?_) (fun c_11 => ?_)
  · refine lv_aload_n hx hb dX10_apart_19 rfl (lv_at hl 1 rfl) ?_
    refine kM_i (As := []) (rest := []) (q0 := 0) ⟨hx, hb, hml, hown, hts⟩ (t_X10_apartNow l D cy a _ (va_up (va_up (va_up (va_up (va_up J 19 w_2) 20 w_3) 21 w_4) 22 w_5) 23 w_6) (va_up I 13 (I 13)) (va_up (va_up (va_up (va_up R 11 w_7) 12 w_8) 13 w_9) 14 w_10) RJ   ) (cwV 0 hts gX10_apart_X10_apartNow rfl rfl rfl (by decide +kernel) ⟨Nat.le_of_ble_eq_true rfl, Nat.le_of_ble_eq_true rfl⟩) hK hN hP hD hS hA rfl rfl rfl hl.1 rfl (Nat.le_of_ble_eq_true rfl) dX10_apart_20 ⟨Nat.le_of_ble_eq_true rfl, Nat.le_of_ble_eq_true rfl⟩ (fun r_12 u H locs hw hP hD hS => ?_)
    obtain ⟨hp_13, rfl⟩ := hw
    have hP : va_P D vwCl (MW cy a (va_up (va_up (va_up (va_up (va_up J 19 w_2) 20 w_3) 21 w_4) 22 w_5) 23 w_6) (va_up I 13 (I 13)) (va_up (va_up (va_up (va_up R 11 w_7) 12 w_8) 13 w_9) 14 w_10) RJ) H := hP
    have hD : va_D A (MW cy a (va_up (va_up (va_up (va_up (va_up J 19 w_2) 20 w_3) 21 w_4) 22 w_5) 23 w_6) (va_up I 13 (I 13)) (va_up (va_up (va_up (va_up R 11 w_7) 12 w_8) 13 w_9) 14 w_10) RJ) := hD
    exact wret_i hx hb hr hlocks ((va_up (va_up (va_up (va_up (va_up J 19 w_2) 20 w_3) 21 w_4) 22 w_5) 23 w_6), (va_up I 13 (I 13)), (va_up (va_up (va_up (va_up R 11 w_7) 12 w_8) 13 w_9) 14 w_10), RJ) ⟨w_2, w_3, w_4, w_5, w_6, (I 13), w_7, w_8, w_9, w_10, trivial, rfl⟩ hP hD hS dX10_apart_23
  · refine lv_aload_n hx hb dX10_apart_11 rfl (lv_at hl 1 rfl) ?_
    refine lv_iload_n hx hb dX10_apart_12 rfl (lv_at hl 0 rfl) ?_
    refine kM_i (As := [.int r_1]) (rest := []) (q0 := 0) ⟨hx, hb, hml, hown, hts⟩ (c_X10_finding l D cy a _ (va_up (va_up (va_up (va_up (va_up J 19 w_2) 20 w_3) 21 w_4) 22 w_5) 23 w_6) (va_up I 13 (I 13)) (va_up (va_up (va_up (va_up R 11 w_7) 12 w_8) 13 w_9) 14 w_10) RJ r_1 ) (cwV 1 hts gX10_apart_X10_finding rfl rfl rfl (by decide +kernel) ⟨Nat.le_of_ble_eq_true rfl, Nat.le_of_ble_eq_true rfl⟩) hK hN hP hD hS hA rfl rfl rfl hl.1 rfl (Nat.le_of_ble_eq_true rfl) dX10_apart_13 ⟨Nat.le_of_ble_eq_true rfl, Nat.le_of_ble_eq_true rfl⟩ (fun r_14 u H locs hw hP hD hS => ?_)
    obtain ⟨rfl, rfl⟩ := hw
    have hP : va_P D vwCl (MW cy a (va_up (va_up (va_up (va_up (va_up J 19 w_2) 20 w_3) 21 w_4) 22 w_5) 23 w_6) (va_up I 13 ((I 13) + 1)) (va_up (va_up (va_up (va_up R 11 w_7) 12 w_8) 13 w_9) 14 w_10) RJ) H := hP
    have hD : va_D A (MW cy a (va_up (va_up (va_up (va_up (va_up J 19 w_2) 20 w_3) 21 w_4) 22 w_5) 23 w_6) (va_up I 13 ((I 13) + 1)) (va_up (va_up (va_up (va_up R 11 w_7) 12 w_8) 13 w_9) 14 w_10) RJ) := hD
    refine lv_goto (tgt := 23) hx hb dX10_apart_16 (by decide) ?_
    exact wret_i hx hb hr hlocks ((va_up (va_up (va_up (va_up (va_up J 19 w_2) 20 w_3) 21 w_4) 22 w_5) 23 w_6), (va_up I 13 ((I 13) + 1)), (va_up (va_up (va_up (va_up R 11 w_7) 12 w_8) 13 w_9) 14 w_10), RJ) ⟨w_2, w_3, w_4, w_5, w_6, ((I 13) + 1), w_7, w_8, w_9, w_10, trivial, rfl⟩ hP hD hS dX10_apart_23
theorem dX10_step_47 : decode cX10_step 47 = .ok (.iload 6, 2) := by decide +kernel
theorem dX10_step_49 : decode cX10_step 49 = .ok (.iload_n 3, 1) := by decide +kernel
theorem dX10_step_50 : decode cX10_step 50 = .ok (.if_icmp .gt 88, 3) := by decide +kernel
theorem dX10_step_138 : decode cX10_step 138 = .ok (.iload 5, 2) := by decide +kernel
theorem dX10_step_140 : decode cX10_step 140 = .ok (.ireturn, 1) := by decide +kernel
theorem dX10_step_53 : decode cX10_step 53 = .ok (.aload_n 0, 1) := by decide +kernel
set_option maxRecDepth 20000 in
theorem ggX10_step_X10_nearer : GoodIn wsX10_step wsX10_nearer := goodIn_r _ [137, 2, 3, 4, 12, 138, 139, 140, 8, 141, 61, 62, 46, 47, 48, 142, 143, 144, 145, 146, 147, 111, 112, 113, 154, 155, 156, 157, 158, 159, 160, 161, 162, 163, 164, 165, 166, 167, 168, 169, 170, 171, 172, 173, 174, 175, 176, 177, 178, 179, 180, 181, 182, 183] rfl (by decide +kernel)
set_option maxRecDepth 20000 in
theorem gX10_step_X10_nearer : GoodIn wsX10_step (wsV RX10 274 RX10 yX10_nearer wsX10_nearer) := goodIn_app (goodIn_r _ [134, 135, 136, 8] rfl (by decide +kernel)) ggX10_step_X10_nearer
theorem dX10_step_54 : decode cX10_step 54 = .ok (.invokevirtual 274, 3) := by decide +kernel
theorem dX10_step_57 : decode cX10_step 57 = .ok (.istore 5, 2) := by decide +kernel
theorem dX10_step_59 : decode cX10_step 59 = .ok (.iload 5, 2) := by decide +kernel
theorem dX10_step_61 : decode cX10_step 61 = .ok (.aload_n 0, 1) := by decide +kernel
theorem dX10_step_62 : decode cX10_step 62 = .ok (.aload_n 0, 1) := by decide +kernel
theorem dX10_step_63 : decode cX10_step 63 = .ok (.getfield 210, 3) := by decide +kernel
theorem dX10_step_66 : decode cX10_step 66 = .ok (.aload_n 0, 1) := by decide +kernel
theorem dX10_step_67 : decode cX10_step 67 = .ok (.getfield 213, 3) := by decide +kernel
theorem dX10_step_70 : decode cX10_step 70 = .ok (.iload 5, 2) := by decide +kernel
set_option maxRecDepth 20000 in
theorem ggX10_step_X10_turnAt : GoodIn wsX10_step wsX10_turnAt := goodIn_r _ [141, 61, 62, 46, 47, 8, 48, 154, 155, 156, 157, 158, 159, 160, 161, 162, 163, 164, 165, 166, 167, 168, 169, 170, 171, 172, 173, 174, 175, 176, 177, 178, 179, 180, 181, 182, 183] rfl (by decide +kernel)
set_option maxRecDepth 20000 in
theorem gX10_step_X10_turnAt : GoodIn wsX10_step (wsV RX10 231 RX10 yX10_turnAt wsX10_turnAt) := goodIn_app (goodIn_r _ [138, 139, 140, 8] rfl (by decide +kernel)) ggX10_step_X10_turnAt
theorem dX10_step_72 : decode cX10_step 72 = .ok (.invokevirtual 231, 3) := by decide +kernel
set_option maxRecDepth 20000 in
theorem ggX10_step_X10_isDown : GoodIn wsX10_step wsX10_isDown := goodIn_r _ [147, 111, 112, 8, 113] rfl (by decide +kernel)
set_option maxRecDepth 20000 in
theorem gX10_step_X10_isDown : GoodIn wsX10_step (va_wsS RX10 260 yX10_isDown wsX10_isDown) := goodIn_app (goodIn_r _ [145, 146, 8] rfl (by decide +kernel)) ggX10_step_X10_isDown
theorem dX10_step_75 : decode cX10_step 75 = .ok (.invokestatic 260, 3) := by decide +kernel
theorem dX10_step_78 : decode cX10_step 78 = .ok (.ifCond .eq 8, 3) := by decide +kernel
theorem dX10_step_86 : decode cX10_step 86 = .ok (.iconst 4, 1) := by decide +kernel
theorem dX10_step_87 : decode cX10_step 87 = .ok (.istore 7, 2) := by decide +kernel
theorem dX10_step_89 : decode cX10_step 89 = .ok (.aload_n 0, 1) := by decide +kernel
theorem dX10_step_90 : decode cX10_step 90 = .ok (.dup, 1) := by decide +kernel
theorem dX10_step_91 : decode cX10_step 91 = .ok (.getfield 210, 3) := by decide +kernel
theorem dX10_step_94 : decode cX10_step 94 = .ok (.iload 5, 2) := by decide +kernel
set_option maxRecDepth 20000 in
theorem ggX10_step_X10_alongAt : GoodIn wsX10_step wsX10_alongAt := goodIn_r _ [150] rfl (by decide +kernel)
set_option maxRecDepth 20000 in
theorem gX10_step_X10_alongAt : GoodIn wsX10_step (va_wsS RX10 235 yX10_alongAt wsX10_alongAt) := goodIn_app (goodIn_r _ [148, 149, 8] rfl (by decide +kernel)) ggX10_step_X10_alongAt
theorem dX10_step_96 : decode cX10_step 96 = .ok (.invokestatic 235, 3) := by decide +kernel
theorem dX10_step_99 : decode cX10_step 99 = .ok (.lxor, 1) := by decide +kernel
theorem dX10_step_100 : decode cX10_step 100 = .ok (.putfield 210, 3) := by decide +kernel
theorem dX10_step_103 : decode cX10_step 103 = .ok (.aload_n 0, 1) := by decide +kernel
theorem dX10_step_104 : decode cX10_step 104 = .ok (.dup, 1) := by decide +kernel
theorem dX10_step_105 : decode cX10_step 105 = .ok (.getfield 213, 3) := by decide +kernel
theorem dX10_step_108 : decode cX10_step 108 = .ok (.iload 5, 2) := by decide +kernel
set_option maxRecDepth 20000 in
theorem ggX10_step_X10_acrossAt : GoodIn wsX10_step wsX10_acrossAt := goodIn_r _ [153, 79] rfl (by decide +kernel)
set_option maxRecDepth 20000 in
theorem gX10_step_X10_acrossAt : GoodIn wsX10_step (va_wsS RX10 239 yX10_acrossAt wsX10_acrossAt) := goodIn_app (goodIn_r _ [151, 152, 8] rfl (by decide +kernel)) ggX10_step_X10_acrossAt
theorem dX10_step_110 : decode cX10_step 110 = .ok (.invokestatic 239, 3) := by decide +kernel
theorem dX10_step_113 : decode cX10_step 113 = .ok (.lxor, 1) := by decide +kernel
theorem dX10_step_114 : decode cX10_step 114 = .ok (.putfield 213, 3) := by decide +kernel
theorem dX10_step_117 : decode cX10_step 117 = .ok (.aload_n 0, 1) := by decide +kernel
theorem dX10_step_118 : decode cX10_step 118 = .ok (.getfield 48, 3) := by decide +kernel
theorem dX10_step_121 : decode cX10_step 121 = .ok (.iload 5, 2) := by decide +kernel
set_option maxRecDepth 20000 in
theorem ggX10_step_X10_midst : GoodIn wsX10_step wsX10_midst := goodIn_r _ [144] rfl (by decide +kernel)
set_option maxRecDepth 20000 in
theorem gX10_step_X10_midst : GoodIn wsX10_step (va_wsS RX10 277 yX10_midst wsX10_midst) := goodIn_app (goodIn_r _ [142, 143, 8] rfl (by decide +kernel)) ggX10_step_X10_midst
theorem dX10_step_123 : decode cX10_step 123 = .ok (.invokestatic 277, 3) := by decide +kernel
theorem dX10_step_126 : decode cX10_step 126 = .ok (.dup2, 1) := by decide +kernel
theorem dX10_step_127 : decode cX10_step 127 = .ok (.iaload, 1) := by decide +kernel
theorem dX10_step_128 : decode cX10_step 128 = .ok (.iload 7, 2) := by decide +kernel
theorem dX10_step_130 : decode cX10_step 130 = .ok (.iadd, 1) := by decide +kernel
theorem dX10_step_131 : decode cX10_step 131 = .ok (.iastore, 1) := by decide +kernel
theorem dX10_step_132 : decode cX10_step 132 = .ok (.iinc 6 1, 3) := by decide +kernel
theorem dX10_step_135 : decode cX10_step 135 = .ok (.goto (-88), 3) := by decide +kernel
theorem dX10_step_81 : decode cX10_step 81 = .ok (.bipush (-4), 2) := by decide +kernel
theorem dX10_step_83 : decode cX10_step 83 = .ok (.goto 4, 3) := by decide +kernel
theorem dX10_step_0 : decode cX10_step 0 = .ok (.aload_n 0, 1) := by decide +kernel
theorem dX10_step_1 : decode cX10_step 1 = .ok (.iload_n 1, 1) := by decide +kernel
theorem dX10_step_2 : decode cX10_step 2 = .ok (.iload_n 2, 1) := by decide +kernel
set_option maxRecDepth 20000 in
theorem ggX10_step_X10_against : GoodIn wsX10_step wsX10_against := goodIn_r _ [9, 10, 11, 2, 3, 12, 4, 13, 14, 15, 8, 16, 17, 18, 19, 20, 21, 22, 23, 24, 25, 26, 27, 28, 29, 30, 31, 32, 33, 34, 35, 36, 37, 38, 39, 40, 41, 42, 43, 44, 45, 46, 47, 48, 49, 50, 51, 52, 53, 54, 55, 56, 57, 58, 59, 60, 61, 62, 63, 64, 65, 66, 67, 68, 69, 70, 71, 72, 73, 74, 75, 76, 77, 78, 79, 80, 81, 82, 83, 84, 85, 86, 87, 88, 89, 90, 91, 92, 93, 94, 95, 96, 97, 98, 99, 100, 101, 102, 103, 104, 105, 106, 107, 108, 109, 110, 111, 112, 113, 114, 115, 116, 117, 118, 119, 120, 154, 155, 156, 157, 158, 159, 160, 161, 162, 163, 164, 165, 166, 167, 168, 169, 170, 171, 172, 173, 174, 175, 176, 177, 178, 179, 180, 181, 182, 183] rfl (by decide +kernel)
set_option maxRecDepth 20000 in
theorem gX10_step_X10_against : GoodIn wsX10_step (wsV RX10 268 RX10 yX10_against wsX10_against) := goodIn_app (goodIn_r _ [5, 6, 7, 8] rfl (by decide +kernel)) ggX10_step_X10_against
theorem dX10_step_3 : decode cX10_step 3 = .ok (.invokevirtual 268, 3) := by decide +kernel
theorem dX10_step_6 : decode cX10_step 6 = .ok (.istore 4, 2) := by decide +kernel
theorem dX10_step_8 : decode cX10_step 8 = .ok (.iload 4, 2) := by decide +kernel
theorem dX10_step_10 : decode cX10_step 10 = .ok (.ifCond .eq 10, 3) := by decide +kernel
theorem dX10_step_20 : decode cX10_step 20 = .ok (.iload_n 3, 1) := by decide +kernel
theorem dX10_step_21 : decode cX10_step 21 = .ok (.iconst 0, 1) := by decide +kernel
theorem dX10_step_22 : decode cX10_step 22 = .ok (.aload_n 0, 1) := by decide +kernel
set_option maxRecDepth 20000 in
theorem ggX10_step_X10_apartNow : GoodIn wsX10_step wsX10_apartNow := goodIn_r _ [129, 4, 12, 130, 131, 132, 133, 154, 155, 156, 157, 158, 159, 160, 161, 162, 163, 164, 165, 166, 167, 168, 169, 170, 171, 172, 173, 174, 175, 176, 177, 178, 179, 180, 181, 182, 183] rfl (by decide +kernel)
set_option maxRecDepth 20000 in
theorem gX10_step_X10_apartNow : GoodIn wsX10_step (wsV RX10 271 RX10 yX10_apartNow wsX10_apartNow) := goodIn_app (goodIn_r _ [126, 127, 128, 8] rfl (by decide +kernel)) ggX10_step_X10_apartNow
theorem dX10_step_23 : decode cX10_step 23 = .ok (.invokevirtual 271, 3) := by decide +kernel
theorem dX10_step_26 : decode cX10_step 26 = .ok (.iconst 1, 1) := by decide +kernel
theorem dX10_step_27 : decode cX10_step 27 = .ok (.isub, 1) := by decide +kernel
set_option maxRecDepth 20000 in
theorem ggX10_step_X10_within : GoodIn wsX10_step wsX10_within := goodIn_r _ [45] rfl (by decide +kernel)
set_option maxRecDepth 20000 in
theorem gX10_step_X10_within : GoodIn wsX10_step (va_wsS RX10 70 yX10_within wsX10_within) := goodIn_app (goodIn_r _ [43, 44, 8] rfl (by decide +kernel)) ggX10_step_X10_within
theorem dX10_step_28 : decode cX10_step 28 = .ok (.invokestatic 70, 3) := by decide +kernel
theorem dX10_step_31 : decode cX10_step 31 = .ok (.ifCond .ne 10, 3) := by decide +kernel
theorem dX10_step_41 : decode cX10_step 41 = .ok (.iconst (-1), 1) := by decide +kernel
theorem dX10_step_42 : decode cX10_step 42 = .ok (.istore 5, 2) := by decide +kernel
theorem dX10_step_44 : decode cX10_step 44 = .ok (.iconst 0, 1) := by decide +kernel
theorem dX10_step_45 : decode cX10_step 45 = .ok (.istore 6, 2) := by decide +kernel
theorem dX10_step_34 : decode cX10_step 34 = .ok (.aload_n 0, 1) := by decide +kernel
theorem dX10_step_35 : decode cX10_step 35 = .ok (.ldc 98, 2) := by decide +kernel
set_option maxRecDepth 20000 in
theorem ggX10_step_X10_finding : GoodIn wsX10_step wsX10_finding := goodIn_r _ [124, 125, 154, 155, 156, 157, 158, 159, 160, 161, 162, 163, 164, 165, 166, 167, 168, 169, 170, 171, 172, 173, 174, 175, 176, 177, 178, 179, 180, 181, 182, 183] rfl (by decide +kernel)
set_option maxRecDepth 20000 in
theorem gX10_step_X10_finding : GoodIn wsX10_step (wsV RX10 99 RX10 yX10_finding wsX10_finding) := goodIn_app (goodIn_r _ [121, 122, 123, 8] rfl (by decide +kernel)) ggX10_step_X10_finding
theorem dX10_step_37 : decode cX10_step 37 = .ok (.invokevirtual 99, 3) := by decide +kernel
theorem dX10_step_40 : decode cX10_step 40 = .ok (.ireturn, 1) := by decide +kernel
theorem dX10_step_13 : decode cX10_step 13 = .ok (.aload_n 0, 1) := by decide +kernel
theorem dX10_step_14 : decode cX10_step 14 = .ok (.iload 4, 2) := by decide +kernel
theorem dX10_step_16 : decode cX10_step 16 = .ok (.invokevirtual 99, 3) := by decide +kernel
theorem dX10_step_19 : decode cX10_step 19 = .ok (.ireturn, 1) := by decide +kernel
set_option maxRecDepth 20000 in
theorem ihX10_step_10 : ∀ w ∈ u_ws RX10 TX10 30, w ∈ wsX10_step := fun _ h => List.mem_cons_of_mem _ (List.mem_append_right _ h)
set_option maxHeartbeats 4000000 in
set_option maxRecDepth 100000 in
theorem t_X10_step (l : Launch) (D : va_G) (cy : Nat → ClassId) (a : Nat → Nat) (sz : Nat) (J : Nat → Int64) (I : Nat → Int32) (R : Nat → Nat → Int32) (RJ : Nat → Nat → Int64) (x0 : Int32) (x1 : Int32) (x2 : Int32) (hM : MI I R) : Met l yX10_step wsX10_step ({ frames := 7, cells := 0, slots := 0, locals := 159 }) (va_Pc [.ref (a 0), .int x0, .int x1, .int x2] (PW D cy sz (MW cy a J I R RJ))) (va_Qi (fun r (u : MS) => ∃ (w0 : Int64), ∃ (w1 : Int64), ∃ (w2 : Int64), ∃ (w3 : Int64), ∃ (w4 : Int64), ∃ (w5 : Int32), ∃ (w6 : Nat → Int32), ∃ (w7 : Nat → Int32), ∃ (w8 : Nat → Int32), ∃ (w9 : Nat → Int32), (True) ∧ u = ((va_up (va_up (va_up (va_up (va_up J 19 w0) 20 w1) 21 w2) 22 w3) 23 w4), (va_up I 13 w5), (va_up (va_up (va_up (va_up R 11 w6) 12 w7) 13 w8) 14 w9), RJ)) (BW D (va_A (MW cy a J I R RJ) sz) (MWu cy a)) (va_A (MW cy a J I R RJ) sz)) 0 0 (va_A (MW cy a J I R RJ) sz) := by
  refine Met.ofW (cc := cX10_step) (maxL := 8) (ret := (some .int)) (by decide) rfl ?_
  intro p e s m args below meth c s₁ B hml hv
  obtain ⟨rfl, rfl, hP, hK, hN, hD0⟩ := hv
  have hx := B.exec
  have hb := B.bytes
  have hr := B.returns
  have hts := atoms_spec (ws := wsX10_step) B.pre
  have hown : s.vm.findClass RX10 = some m.cls := findClass_of_methodNamed B.named
  have hlocks := B.notSynchronized
  have hw0 := hts (.fieldLink RX10 210 "ParquetLayerModel" "walkAlong" "J") (by decide +kernel)
  have hw1 := hts (.fieldLink RX10 213 "ParquetLayerModel" "walkAcross" "J") (by decide +kernel)
  have hw2 := hts (.fieldLink RX10 48 "ParquetLayerModel" "one" "[I") (by decide +kernel)
  have hw3 := hts (.constant RX10 98 (-100006)) (by decide +kernel)
  have hi10 := ihX10_step_10
  have hD := hD0.self (sz := s.heap.size)
  generalize hAe : va_A (MW cy a J I R RJ) s.heap.size = A at hD ⊢
  have hA : ∀ q : Nat, s.heap.size ≤ q → A q := fun q h => by rw [← hAe]; exact Or.inr h
  have hS : va_S A s.heap s.heap [] := va_S.rf
  have hl := lv_entry ([.ref (a 0), .int x0, .int x1, .int x2]) (n := 8) (Nat.le_of_ble_eq_true rfl)
  rw [lg_entry_eq]
  generalize (lg_sl ([.ref (a 0), .int x0, .int x1, .int x2]) ++ List.replicate (8 - (lg_sl ([.ref (a 0), .int x0, .int x1, .int x2])).length) Slot.unset).toArray = ls at hl ⊢
  have hl : lv_has ls 8 [(0, .ref (a 0)), (1, .int x0), (2, .int x1), (3, .int x2)] := hl
  have hP : va_P D vwCl (MW cy a (va_up (va_up (va_up (va_up (va_up J 19 (J 19)) 20 (J 20)) 21 (J 21)) 22 (J 22)) 23 (J 23)) (va_up I 13 (I 13)) (va_up (va_up (va_up (va_up R 11 (R 11)) 12 (R 12)) 13 (R 13)) 14 (R 14)) RJ) s.heap := hP
  have hD : va_D A (MW cy a (va_up (va_up (va_up (va_up (va_up J 19 (J 19)) 20 (J 20)) 21 (J 21)) 22 (J 22)) 23 (J 23)) (va_up I 13 (I 13)) (va_up (va_up (va_up (va_up R 11 (R 11)) 12 (R 12)) 13 (R 13)) 14 (R 14)) RJ) := hD
  have lp47 : ∀ (n47 : Nat), ∀ (k : Nat) (nn : Nat) (v5_47 : Int32) (m0_47 : Int64) (m1_47 : Int64) (m2_47 : Int64) (m3_47 : Int64) (m4_47 : Int64) (m5_47 : Int32) (m6_47 : Nat → Int32) (m7_47 : Nat → Int32) (m8_47 : Nat → Int32) (m9_47 : Nat → Int32), (k ≤ (nn + 1)) → (x2 = nI nn) → (nn < 1000000000) → ((nn + 1) - k) < n47 → ∀ (H : Heap) (locs : List Loc), va_P D vwCl (MW cy a (va_up (va_up (va_up (va_up (va_up J 19 m0_47) 20 m1_47) 21 m2_47) 22 m3_47) 23 m4_47) (va_up I 13 m5_47) (va_up (va_up (va_up (va_up R 11 m6_47) 12 m7_47) 13 m8_47) 14 m9_47) RJ) H → va_D A (MW cy a (va_up (va_up (va_up (va_up (va_up J 19 m0_47) 20 m1_47) 21 m2_47) 22 m3_47) 23 m4_47) (va_up I 13 m5_47) (va_up (va_up (va_up (va_up R 11 m6_47) 12 m7_47) 13 m8_47) 14 m9_47) RJ) → va_S A s.heap H locs → ∀ (ls : Array Slot), lv_has ls 8 [(0, .ref (a 0)), (3, .int x2), (5, .int v5_47), (6, .int (nI k))] → W p l e (headSpec wsX10_step ({ frames := 7, cells := 0, slots := 0, locals := 159 })).room s m ([.ref (a 0), .int x0, .int x1, .int x2] : List Value).toArray below meth c H locs 0 0 (MQ below (va_Qi (fun r (u : MS) => ∃ (w0 : Int64), ∃ (w1 : Int64), ∃ (w2 : Int64), ∃ (w3 : Int64), ∃ (w4 : Int64), ∃ (w5 : Int32), ∃ (w6 : Nat → Int32), ∃ (w7 : Nat → Int32), ∃ (w8 : Nat → Int32), ∃ (w9 : Nat → Int32), (True) ∧ u = ((va_up (va_up (va_up (va_up (va_up J 19 w0) 20 w1) 21 w2) 22 w3) 23 w4), (va_up I 13 w5), (va_up (va_up (va_up (va_up R 11 w6) 12 w7) 13 w8) 14 w9), RJ)) (BW D A (MWu cy a)) A) ([.ref (a 0), .int x0, .int x1, .int x2] : List Value).toArray s 0 0 A) (F0 m 47 ls []) := by
    intro n47
    induction n47 with
    | zero => intro k nn v5_47 m0_47 m1_47 m2_47 m3_47 m4_47 m5_47 m6_47 m7_47 m8_47 m9_47 hk hx2 hnn hn; exact absurd hn (Nat.not_lt_zero _)
    | succ n47 ih47 =>
      intro k nn v5_47 m0_47 m1_47 m2_47 m3_47 m4_47 m5_47 m6_47 m7_47 m8_47 m9_47 hk hx2 hnn hn47 H locs hP hD hS ls hl
      refine lv_iload hx hb dX10_step_47 (lv_at hl 3 rfl) ?_
      refine lv_iload_n hx hb dX10_step_49 rfl (lv_at hl 1 rfl) ?_
      refine lv_icmp_gt (tgt := 138) hx hb dX10_step_50 (by decide) (fun c_1 => ?_) (fun c_1 => ?_)
      · refine lv_iload hx hb dX10_step_138 (lv_at hl 2 rfl) ?_
        exact wret_i hx hb hr hlocks ((va_up (va_up (va_up (va_up (va_up J 19 m0_47) 20 m1_47) 21 m2_47) 22 m3_47) 23 m4_47), (va_up I 13 m5_47), (va_up (va_up (va_up (va_up R 11 m6_47) 12 m7_47) 13 m8_47) 14 m9_47), RJ) ⟨m0_47, m1_47, m2_47, m3_47, m4_47, m5_47, m6_47, m7_47, m8_47, m9_47, trivial, rfl⟩ hP hD hS dX10_step_140
      · have hkn := stp_le hnn hx2 hk c_1
        refine lv_aload_n hx hb dX10_step_53 rfl (lv_at hl 0 rfl) ?_
        refine kM_i (As := []) (rest := []) (q0 := 0) ⟨hx, hb, hml, hown, hts⟩ (t_X10_nearer l D cy a _ (va_up (va_up (va_up (va_up (va_up J 19 m0_47) 20 m1_47) 21 m2_47) 22 m3_47) 23 m4_47) (va_up I 13 m5_47) (va_up (va_up (va_up (va_up R 11 m6_47) 12 m7_47) 13 m8_47) 14 m9_47) RJ   ) (cwV 0 hts gX10_step_X10_nearer rfl rfl rfl (by decide +kernel) ⟨Nat.le_of_ble_eq_true rfl, Nat.le_of_ble_eq_true rfl⟩) hK hN hP hD hS hA rfl rfl rfl hl.1 rfl (Nat.le_of_ble_eq_true rfl) dX10_step_54 ⟨Nat.le_of_ble_eq_true rfl, Nat.le_of_ble_eq_true rfl⟩ (fun r_2 u H locs hw hP hD hS => ?_)
        obtain ⟨hp_3, rfl⟩ := hw
        have hP : va_P D vwCl (MW cy a (va_up (va_up (va_up (va_up (va_up J 19 m0_47) 20 m1_47) 21 m2_47) 22 m3_47) 23 m4_47) (va_up I 13 m5_47) (va_up (va_up (va_up (va_up R 11 m6_47) 12 m7_47) 13 m8_47) 14 m9_47) RJ) H := hP
        have hD : va_D A (MW cy a (va_up (va_up (va_up (va_up (va_up J 19 m0_47) 20 m1_47) 21 m2_47) 22 m3_47) 23 m4_47) (va_up I 13 m5_47) (va_up (va_up (va_up (va_up R 11 m6_47) 12 m7_47) 13 m8_47) 14 m9_47) RJ) := hD
        refine lv_istore (lv' := [(5, .int r_2), (0, .ref (a 0)), (3, .int x2), (6, .int (nI k))]) hx hb dX10_step_57 hl (by decide) rfl (fun ls hl => ?_)
        refine lv_iload hx hb dX10_step_59 (lv_at hl 0 rfl) ?_
        refine lv_aload_n hx hb dX10_step_61 rfl (lv_at hl 1 rfl) ?_
        refine lv_aload_n hx hb dX10_step_62 rfl (lv_at hl 1 rfl) ?_
        refine va_get (D := D) (ci := 9) (v := .long m3_47) (C := RX10) (T := TX10) (N := 30) hx hb hts hi10 hown hK hP 0 rfl rfl 22 (by decide) hw0 (fun _ h9 => h9) rfl dX10_step_63 ?_
        refine lv_aload_n hx hb dX10_step_66 rfl (lv_at hl 1 rfl) ?_
        refine va_get (D := D) (ci := 9) (v := .long m4_47) (C := RX10) (T := TX10) (N := 30) hx hb hts hi10 hown hK hP 0 rfl rfl 23 (by decide) hw1 (fun _ h9 => h9) rfl dX10_step_67 ?_
        refine lv_iload hx hb dX10_step_70 (lv_at hl 0 rfl) ?_
        refine kM_i (As := [.long m3_47, .long m4_47, .int r_2]) (rest := [.int r_2]) (q0 := 0) ⟨hx, hb, hml, hown, hts⟩ (t_X10_turnAt l D cy a _ (va_up (va_up (va_up (va_up (va_up J 19 m0_47) 20 m1_47) 21 m2_47) 22 m3_47) 23 m4_47) (va_up I 13 m5_47) (va_up (va_up (va_up (va_up R 11 m6_47) 12 m7_47) 13 m8_47) 14 m9_47) RJ m3_47 m4_47 r_2  ) (cwV 3 hts gX10_step_X10_turnAt rfl rfl rfl (by decide +kernel) ⟨Nat.le_of_ble_eq_true rfl, Nat.le_of_ble_eq_true rfl⟩) hK hN hP hD hS hA rfl rfl rfl hl.1 rfl (Nat.le_of_ble_eq_true rfl) dX10_step_72 ⟨Nat.le_of_ble_eq_true rfl, Nat.le_of_ble_eq_true rfl⟩ (fun r_4 u H locs hw hP hD hS => ?_)
        obtain ⟨-, rfl⟩ := hw
        have hP : va_P D vwCl (MW cy a (va_up (va_up (va_up (va_up (va_up J 19 m0_47) 20 m1_47) 21 m2_47) 22 m3_47) 23 m4_47) (va_up I 13 m5_47) (va_up (va_up (va_up (va_up R 11 m6_47) 12 m7_47) 13 m8_47) 14 m9_47) RJ) H := hP
        have hD : va_D A (MW cy a (va_up (va_up (va_up (va_up (va_up J 19 m0_47) 20 m1_47) 21 m2_47) 22 m3_47) 23 m4_47) (va_up I 13 m5_47) (va_up (va_up (va_up (va_up R 11 m6_47) 12 m7_47) 13 m8_47) 14 m9_47) RJ) := hD
        refine kS_i (As := [.int r_2, .int r_4]) (rest := []) ⟨hx, hb, hml, hown, hts⟩ (c_X10_isDown l r_2 r_4) (va_cwS 2 hts gX10_step_X10_isDown rfl rfl rfl (by decide +kernel) ⟨Nat.le_of_ble_eq_true rfl, Nat.le_of_ble_eq_true rfl⟩) rfl hl.1 rfl (Nat.le_of_ble_eq_true rfl) dX10_step_75 ⟨Nat.le_of_ble_eq_true rfl, Nat.le_of_ble_eq_true rfl⟩ ?_
        refine lv_if_eq (tgt := 86) hx hb dX10_step_78 (by decide) (fun c_5 => ?_) (fun c_5 => ?_)
        · replace c_5 := bI_f c_5
          refine lv_iconst (v := 4) hx hb dX10_step_86 (by decide) ?_
          refine lv_istore (lv' := [(7, .int 4), (5, .int r_2), (0, .ref (a 0)), (3, .int x2), (6, .int (nI k))]) hx hb dX10_step_87 hl (by decide) rfl (fun ls hl => ?_)
          refine lv_aload_n hx hb dX10_step_89 rfl (lv_at hl 2 rfl) ?_
          refine lv_dup hx hb dX10_step_90 rfl ?_
          refine va_get (D := D) (ci := 9) (v := .long m3_47) (C := RX10) (T := TX10) (N := 30) hx hb hts hi10 hown hK hP 0 rfl rfl 22 (by decide) hw0 (fun _ h9 => h9) rfl dX10_step_91 ?_
          refine lv_iload hx hb dX10_step_94 (lv_at hl 1 rfl) ?_
          refine kS_l (As := [.int r_2]) (rest := [.long m3_47, .ref (a 0)]) ⟨hx, hb, hml, hown, hts⟩ (c_X10_alongAt l r_2) (va_cwS 1 hts gX10_step_X10_alongAt rfl rfl rfl (by decide +kernel) ⟨Nat.le_of_ble_eq_true rfl, Nat.le_of_ble_eq_true rfl⟩) rfl hl.1 rfl (Nat.le_of_ble_eq_true rfl) dX10_step_96 ⟨Nat.le_of_ble_eq_true rfl, Nat.le_of_ble_eq_true rfl⟩ ?_
          refine lv_lxor hx hb dX10_step_99 ?_
          refine va_put (D := D) (ci := 9) (v := .long (m3_47 ^^^ (m_alongAt r_2))) (ty := .long) (C := RX10) (T := TX10) (N := 30) hx hb hts hi10 tyX10 tyX10_ok nmX10 hown hK hP hD hS 0 rfl rfl 22 (by decide) hw0 (fun _ h9 => h9) rfl (by decide +kernel) rfl rfl (Nat.le_of_ble_eq_true rfl) dX10_step_100 (fun H locs hP hD hS => ?_)
          have hP : va_P D vwCl (MW cy a (va_up (va_up (va_up (va_up (va_up J 19 m0_47) 20 m1_47) 21 m2_47) 22 (m3_47 ^^^ (m_alongAt r_2))) 23 m4_47) (va_up I 13 m5_47) (va_up (va_up (va_up (va_up R 11 m6_47) 12 m7_47) 13 m8_47) 14 m9_47) RJ) H := hP
          have hD : va_D A (MW cy a (va_up (va_up (va_up (va_up (va_up J 19 m0_47) 20 m1_47) 21 m2_47) 22 (m3_47 ^^^ (m_alongAt r_2))) 23 m4_47) (va_up I 13 m5_47) (va_up (va_up (va_up (va_up R 11 m6_47) 12 m7_47) 13 m8_47) 14 m9_47) RJ) := hD
          refine lv_aload_n hx hb dX10_step_103 rfl (lv_at hl 2 rfl) ?_
          refine lv_dup hx hb dX10_step_104 rfl ?_
          refine va_get (D := D) (ci := 9) (v := .long m4_47) (C := RX10) (T := TX10) (N := 30) hx hb hts hi10 hown hK hP 0 rfl rfl 23 (by decide) hw1 (fun _ h9 => h9) rfl dX10_step_105 ?_
          refine lv_iload hx hb dX10_step_108 (lv_at hl 1 rfl) ?_
          refine kS_l (As := [.int r_2]) (rest := [.long m4_47, .ref (a 0)]) ⟨hx, hb, hml, hown, hts⟩ (c_X10_acrossAt l r_2) (va_cwS 1 hts gX10_step_X10_acrossAt rfl rfl rfl (by decide +kernel) ⟨Nat.le_of_ble_eq_true rfl, Nat.le_of_ble_eq_true rfl⟩) rfl hl.1 rfl (Nat.le_of_ble_eq_true rfl) dX10_step_110 ⟨Nat.le_of_ble_eq_true rfl, Nat.le_of_ble_eq_true rfl⟩ ?_
          refine lv_lxor hx hb dX10_step_113 ?_
          refine va_put (D := D) (ci := 9) (v := .long (m4_47 ^^^ (m_acrossAt r_2))) (ty := .long) (C := RX10) (T := TX10) (N := 30) hx hb hts hi10 tyX10 tyX10_ok nmX10 hown hK hP hD hS 0 rfl rfl 23 (by decide) hw1 (fun _ h9 => h9) rfl (by decide +kernel) rfl rfl (Nat.le_of_ble_eq_true rfl) dX10_step_114 (fun H locs hP hD hS => ?_)
          have hP : va_P D vwCl (MW cy a (va_up (va_up (va_up (va_up (va_up J 19 m0_47) 20 m1_47) 21 m2_47) 22 (m3_47 ^^^ (m_alongAt r_2))) 23 (m4_47 ^^^ (m_acrossAt r_2))) (va_up I 13 m5_47) (va_up (va_up (va_up (va_up R 11 m6_47) 12 m7_47) 13 m8_47) 14 m9_47) RJ) H := hP
          have hD : va_D A (MW cy a (va_up (va_up (va_up (va_up (va_up J 19 m0_47) 20 m1_47) 21 m2_47) 22 (m3_47 ^^^ (m_alongAt r_2))) 23 (m4_47 ^^^ (m_acrossAt r_2))) (va_up I 13 m5_47) (va_up (va_up (va_up (va_up R 11 m6_47) 12 m7_47) 13 m8_47) 14 m9_47) RJ) := hD
          refine lv_aload_n hx hb dX10_step_117 rfl (lv_at hl 2 rfl) ?_
          refine va_get (D := D) (ci := 9) (v := .ref (a 13)) (C := RX10) (T := TX10) (N := 30) hx hb hts hi10 hown hK hP 0 rfl rfl 24 (by decide) hw2 (fun _ h9 => h9) rfl dX10_step_118 ?_
          refine lv_iload hx hb dX10_step_121 (lv_at hl 1 rfl) ?_
          refine kS_i (As := [.int r_2]) (rest := [.ref (a 13)]) ⟨hx, hb, hml, hown, hts⟩ (c_X10_midst l r_2) (va_cwS 1 hts gX10_step_X10_midst rfl rfl rfl (by decide +kernel) ⟨Nat.le_of_ble_eq_true rfl, Nat.le_of_ble_eq_true rfl⟩) rfl hl.1 rfl (Nat.le_of_ble_eq_true rfl) dX10_step_123 ⟨Nat.le_of_ble_eq_true rfl, Nat.le_of_ble_eq_true rfl⟩ ?_
          refine lv_dup2_11 hx hb dX10_step_126 rfl rfl ?_
          refine va_iald hx hb hK hP 13 0 rfl rfl hp_3 dX10_step_127 ?_
          refine lv_iload hx hb dX10_step_128 (lv_at hl 0 rfl) ?_
          refine lv_iadd hx hb dX10_step_130 ?_
          refine va_iast hx hb hK hP hD hS 13 0 rfl rfl hp_3 dX10_step_131 (fun H locs hP hD hS => ?_)
          have hP : va_P D vwCl (MW cy a (va_up (va_up (va_up (va_up (va_up J 19 m0_47) 20 m1_47) 21 m2_47) 22 (m3_47 ^^^ (m_alongAt r_2))) 23 (m4_47 ^^^ (m_acrossAt r_2))) (va_up I 13 m5_47) (va_up (va_up (va_up (va_up R 11 m6_47) 12 m7_47) 13 (upd m8_47 (m_midst r_2).toNatClampNeg ((m8_47 (m_midst r_2).toNatClampNeg) + 4))) 14 m9_47) RJ) H := hP
          have hD : va_D A (MW cy a (va_up (va_up (va_up (va_up (va_up J 19 m0_47) 20 m1_47) 21 m2_47) 22 (m3_47 ^^^ (m_alongAt r_2))) 23 (m4_47 ^^^ (m_acrossAt r_2))) (va_up I 13 m5_47) (va_up (va_up (va_up (va_up R 11 m6_47) 12 m7_47) 13 (upd m8_47 (m_midst r_2).toNatClampNeg ((m8_47 (m_midst r_2).toNatClampNeg) + 4))) 14 m9_47) RJ) := hD
          refine lv_iinc (v := nI (k + 1)) (lv' := [(6, .int (nI (k + 1))), (7, .int 4), (5, .int r_2), (0, .ref (a 0)), (3, .int x2)]) hx hb dX10_step_132 hl (k := 4) rfl (nI_1 _) (by decide) rfl (fun ls hl => ?_)
          refine lv_goto (tgt := 47) hx hb dX10_step_135 (by decide) ?_
          exact ih47 (k + 1) nn r_2 m0_47 m1_47 m2_47 (m3_47 ^^^ (m_alongAt r_2)) (m4_47 ^^^ (m_acrossAt r_2)) m5_47 m6_47 m7_47 (upd m8_47 (m_midst r_2).toNatClampNeg ((m8_47 (m_midst r_2).toNatClampNeg) + 4)) m9_47 (Nat.succ_le_succ hkn) hx2 hnn (lt_dec (Nat.lt_succ_of_le hkn) hn47) _ _ hP hD hS ls (lv_sub hl [3, 4, 2, 0] rfl)
        · replace c_5 := bI_t c_5
          refine lv_bipush (v := (-4)) hx hb dX10_step_81 (by decide) ?_
          refine lv_goto (tgt := 87) hx hb dX10_step_83 (by decide) ?_
          refine lv_istore (lv' := [(7, .int (-4)), (5, .int r_2), (0, .ref (a 0)), (3, .int x2), (6, .int (nI k))]) hx hb dX10_step_87 hl (by decide) rfl (fun ls hl => ?_)
          refine lv_aload_n hx hb dX10_step_89 rfl (lv_at hl 2 rfl) ?_
          refine lv_dup hx hb dX10_step_90 rfl ?_
          refine va_get (D := D) (ci := 9) (v := .long m3_47) (C := RX10) (T := TX10) (N := 30) hx hb hts hi10 hown hK hP 0 rfl rfl 22 (by decide) hw0 (fun _ h9 => h9) rfl dX10_step_91 ?_
          refine lv_iload hx hb dX10_step_94 (lv_at hl 1 rfl) ?_
          refine kS_l (As := [.int r_2]) (rest := [.long m3_47, .ref (a 0)]) ⟨hx, hb, hml, hown, hts⟩ (c_X10_alongAt l r_2) (va_cwS 1 hts gX10_step_X10_alongAt rfl rfl rfl (by decide +kernel) ⟨Nat.le_of_ble_eq_true rfl, Nat.le_of_ble_eq_true rfl⟩) rfl hl.1 rfl (Nat.le_of_ble_eq_true rfl) dX10_step_96 ⟨Nat.le_of_ble_eq_true rfl, Nat.le_of_ble_eq_true rfl⟩ ?_
          refine lv_lxor hx hb dX10_step_99 ?_
          refine va_put (D := D) (ci := 9) (v := .long (m3_47 ^^^ (m_alongAt r_2))) (ty := .long) (C := RX10) (T := TX10) (N := 30) hx hb hts hi10 tyX10 tyX10_ok nmX10 hown hK hP hD hS 0 rfl rfl 22 (by decide) hw0 (fun _ h9 => h9) rfl (by decide +kernel) rfl rfl (Nat.le_of_ble_eq_true rfl) dX10_step_100 (fun H locs hP hD hS => ?_)
          have hP : va_P D vwCl (MW cy a (va_up (va_up (va_up (va_up (va_up J 19 m0_47) 20 m1_47) 21 m2_47) 22 (m3_47 ^^^ (m_alongAt r_2))) 23 m4_47) (va_up I 13 m5_47) (va_up (va_up (va_up (va_up R 11 m6_47) 12 m7_47) 13 m8_47) 14 m9_47) RJ) H := hP
          have hD : va_D A (MW cy a (va_up (va_up (va_up (va_up (va_up J 19 m0_47) 20 m1_47) 21 m2_47) 22 (m3_47 ^^^ (m_alongAt r_2))) 23 m4_47) (va_up I 13 m5_47) (va_up (va_up (va_up (va_up R 11 m6_47) 12 m7_47) 13 m8_47) 14 m9_47) RJ) := hD
          refine lv_aload_n hx hb dX10_step_103 rfl (lv_at hl 2 rfl) ?_
          refine lv_dup hx hb dX10_step_104 rfl ?_
          refine va_get (D := D) (ci := 9) (v := .long m4_47) (C := RX10) (T := TX10) (N := 30) hx hb hts hi10 hown hK hP 0 rfl rfl 23 (by decide) hw1 (fun _ h9 => h9) rfl dX10_step_105 ?_
          refine lv_iload hx hb dX10_step_108 (lv_at hl 1 rfl) ?_
          refine kS_l (As := [.int r_2]) (rest := [.long m4_47, .ref (a 0)]) ⟨hx, hb, hml, hown, hts⟩ (c_X10_acrossAt l r_2) (va_cwS 1 hts gX10_step_X10_acrossAt rfl rfl rfl (by decide +kernel) ⟨Nat.le_of_ble_eq_true rfl, Nat.le_of_ble_eq_true rfl⟩) rfl hl.1 rfl (Nat.le_of_ble_eq_true rfl) dX10_step_110 ⟨Nat.le_of_ble_eq_true rfl, Nat.le_of_ble_eq_true rfl⟩ ?_
          refine lv_lxor hx hb dX10_step_113 ?_
          refine va_put (D := D) (ci := 9) (v := .long (m4_47 ^^^ (m_acrossAt r_2))) (ty := .long) (C := RX10) (T := TX10) (N := 30) hx hb hts hi10 tyX10 tyX10_ok nmX10 hown hK hP hD hS 0 rfl rfl 23 (by decide) hw1 (fun _ h9 => h9) rfl (by decide +kernel) rfl rfl (Nat.le_of_ble_eq_true rfl) dX10_step_114 (fun H locs hP hD hS => ?_)
          have hP : va_P D vwCl (MW cy a (va_up (va_up (va_up (va_up (va_up J 19 m0_47) 20 m1_47) 21 m2_47) 22 (m3_47 ^^^ (m_alongAt r_2))) 23 (m4_47 ^^^ (m_acrossAt r_2))) (va_up I 13 m5_47) (va_up (va_up (va_up (va_up R 11 m6_47) 12 m7_47) 13 m8_47) 14 m9_47) RJ) H := hP
          have hD : va_D A (MW cy a (va_up (va_up (va_up (va_up (va_up J 19 m0_47) 20 m1_47) 21 m2_47) 22 (m3_47 ^^^ (m_alongAt r_2))) 23 (m4_47 ^^^ (m_acrossAt r_2))) (va_up I 13 m5_47) (va_up (va_up (va_up (va_up R 11 m6_47) 12 m7_47) 13 m8_47) 14 m9_47) RJ) := hD
          refine lv_aload_n hx hb dX10_step_117 rfl (lv_at hl 2 rfl) ?_
          refine va_get (D := D) (ci := 9) (v := .ref (a 13)) (C := RX10) (T := TX10) (N := 30) hx hb hts hi10 hown hK hP 0 rfl rfl 24 (by decide) hw2 (fun _ h9 => h9) rfl dX10_step_118 ?_
          refine lv_iload hx hb dX10_step_121 (lv_at hl 1 rfl) ?_
          refine kS_i (As := [.int r_2]) (rest := [.ref (a 13)]) ⟨hx, hb, hml, hown, hts⟩ (c_X10_midst l r_2) (va_cwS 1 hts gX10_step_X10_midst rfl rfl rfl (by decide +kernel) ⟨Nat.le_of_ble_eq_true rfl, Nat.le_of_ble_eq_true rfl⟩) rfl hl.1 rfl (Nat.le_of_ble_eq_true rfl) dX10_step_123 ⟨Nat.le_of_ble_eq_true rfl, Nat.le_of_ble_eq_true rfl⟩ ?_
          refine lv_dup2_11 hx hb dX10_step_126 rfl rfl ?_
          refine va_iald hx hb hK hP 13 0 rfl rfl hp_3 dX10_step_127 ?_
          refine lv_iload hx hb dX10_step_128 (lv_at hl 0 rfl) ?_
          refine lv_iadd hx hb dX10_step_130 ?_
          refine va_iast hx hb hK hP hD hS 13 0 rfl rfl hp_3 dX10_step_131 (fun H locs hP hD hS => ?_)
          have hP : va_P D vwCl (MW cy a (va_up (va_up (va_up (va_up (va_up J 19 m0_47) 20 m1_47) 21 m2_47) 22 (m3_47 ^^^ (m_alongAt r_2))) 23 (m4_47 ^^^ (m_acrossAt r_2))) (va_up I 13 m5_47) (va_up (va_up (va_up (va_up R 11 m6_47) 12 m7_47) 13 (upd m8_47 (m_midst r_2).toNatClampNeg ((m8_47 (m_midst r_2).toNatClampNeg) + (-4)))) 14 m9_47) RJ) H := hP
          have hD : va_D A (MW cy a (va_up (va_up (va_up (va_up (va_up J 19 m0_47) 20 m1_47) 21 m2_47) 22 (m3_47 ^^^ (m_alongAt r_2))) 23 (m4_47 ^^^ (m_acrossAt r_2))) (va_up I 13 m5_47) (va_up (va_up (va_up (va_up R 11 m6_47) 12 m7_47) 13 (upd m8_47 (m_midst r_2).toNatClampNeg ((m8_47 (m_midst r_2).toNatClampNeg) + (-4)))) 14 m9_47) RJ) := hD
          refine lv_iinc (v := nI (k + 1)) (lv' := [(6, .int (nI (k + 1))), (7, .int (-4)), (5, .int r_2), (0, .ref (a 0)), (3, .int x2)]) hx hb dX10_step_132 hl (k := 4) rfl (nI_1 _) (by decide) rfl (fun ls hl => ?_)
          refine lv_goto (tgt := 47) hx hb dX10_step_135 (by decide) ?_
          exact ih47 (k + 1) nn r_2 m0_47 m1_47 m2_47 (m3_47 ^^^ (m_alongAt r_2)) (m4_47 ^^^ (m_acrossAt r_2)) m5_47 m6_47 m7_47 (upd m8_47 (m_midst r_2).toNatClampNeg ((m8_47 (m_midst r_2).toNatClampNeg) + (-4))) m9_47 (Nat.succ_le_succ hkn) hx2 hnn (lt_dec (Nat.lt_succ_of_le hkn) hn47) _ _ hP hD hS ls (lv_sub hl [3, 4, 2, 0] rfl)
  refine lv_aload_n hx hb dX10_step_0 rfl (lv_at hl 0 rfl) ?_
  refine lv_iload_n hx hb dX10_step_1 rfl (lv_at hl 1 rfl) ?_
  refine lv_iload_n hx hb dX10_step_2 rfl (lv_at hl 2 rfl) ?_
  refine kM_i (As := [.int x0, .int x1]) (rest := []) (q0 := 0) ⟨hx, hb, hml, hown, hts⟩ (t_X10_against l D cy a _ (va_up (va_up (va_up (va_up (va_up J 19 (J 19)) 20 (J 20)) 21 (J 21)) 22 (J 22)) 23 (J 23)) (va_up I 13 (I 13)) (va_up (va_up (va_up (va_up R 11 (R 11)) 12 (R 12)) 13 (R 13)) 14 (R 14)) RJ x0 x1  ⟨hM.1, hM.2.1, hM.2.2.1, hM.2.2.2.1, hM.2.2.2.2.1, hM.2.2.2.2.2⟩) (cwV 2 hts gX10_step_X10_against rfl rfl rfl (by decide +kernel) ⟨Nat.le_of_ble_eq_true rfl, Nat.le_of_ble_eq_true rfl⟩) hK hN hP hD hS hA rfl rfl rfl hl.1 rfl (Nat.le_of_ble_eq_true rfl) dX10_step_3 ⟨Nat.le_of_ble_eq_true rfl, Nat.le_of_ble_eq_true rfl⟩ (fun r_6 u H locs hw hP hD hS => ?_)
  obtain ⟨w_7, w_8, w_9, w_10, w_11, w_12, w_13, w_14, w_15, -, rfl⟩ := hw
  have hP : va_P D vwCl (MW cy a (va_up (va_up (va_up (va_up (va_up J 19 w_7) 20 w_8) 21 w_9) 22 w_10) 23 w_11) (va_up I 13 (I 13)) (va_up (va_up (va_up (va_up R 11 w_12) 12 w_13) 13 w_14) 14 w_15) RJ) H := hP
  have hD : va_D A (MW cy a (va_up (va_up (va_up (va_up (va_up J 19 w_7) 20 w_8) 21 w_9) 22 w_10) 23 w_11) (va_up I 13 (I 13)) (va_up (va_up (va_up (va_up R 11 w_12) 12 w_13) 13 w_14) 14 w_15) RJ) := hD
  refine lv_istore (lv' := [(4, .int r_6), (0, .ref (a 0)), (1, .int x0), (2, .int x1), (3, .int x2)]) hx hb dX10_step_6 hl (by decide) rfl (fun ls hl => ?_)
  refine lv_iload hx hb dX10_step_8 (lv_at hl 0 rfl) ?_
  refine lv_if_eq (tgt := 20) hx hb dX10_step_10 (by decide) (fun c_16 => ?_) (fun c_16 => ?_)
  · refine lv_iload_n hx hb dX10_step_20 rfl (lv_at hl 4 rfl) ?_
    refine lv_iconst (v := 0) hx hb dX10_step_21 (by decide) ?_
    refine lv_aload_n hx hb dX10_step_22 rfl (lv_at hl 1 rfl) ?_
    refine kM_i (As := []) (rest := [.int 0, .int x2]) (q0 := 0) ⟨hx, hb, hml, hown, hts⟩ (t_X10_apartNow l D cy a _ (va_up (va_up (va_up (va_up (va_up J 19 w_7) 20 w_8) 21 w_9) 22 w_10) 23 w_11) (va_up I 13 (I 13)) (va_up (va_up (va_up (va_up R 11 w_12) 12 w_13) 13 w_14) 14 w_15) RJ   ) (cwV 0 hts gX10_step_X10_apartNow rfl rfl rfl (by decide +kernel) ⟨Nat.le_of_ble_eq_true rfl, Nat.le_of_ble_eq_true rfl⟩) hK hN hP hD hS hA rfl rfl rfl hl.1 rfl (Nat.le_of_ble_eq_true rfl) dX10_step_23 ⟨Nat.le_of_ble_eq_true rfl, Nat.le_of_ble_eq_true rfl⟩ (fun r_17 u H locs hw hP hD hS => ?_)
    obtain ⟨hp_18, rfl⟩ := hw
    have hP : va_P D vwCl (MW cy a (va_up (va_up (va_up (va_up (va_up J 19 w_7) 20 w_8) 21 w_9) 22 w_10) 23 w_11) (va_up I 13 (I 13)) (va_up (va_up (va_up (va_up R 11 w_12) 12 w_13) 13 w_14) 14 w_15) RJ) H := hP
    have hD : va_D A (MW cy a (va_up (va_up (va_up (va_up (va_up J 19 w_7) 20 w_8) 21 w_9) 22 w_10) 23 w_11) (va_up I 13 (I 13)) (va_up (va_up (va_up (va_up R 11 w_12) 12 w_13) 13 w_14) 14 w_15) RJ) := hD
    refine lv_iconst (v := 1) hx hb dX10_step_26 (by decide) ?_
    refine lv_isub hx hb dX10_step_27 ?_
    have HAP := hp_18
    refine kS_i (As := [.int x2, .int 0, .int (r_17 - 1)]) (rest := []) ⟨hx, hb, hml, hown, hts⟩ (c_X10_within l x2 0 (r_17 - 1)) (va_cwS 3 hts gX10_step_X10_within rfl rfl rfl (by decide +kernel) ⟨Nat.le_of_ble_eq_true rfl, Nat.le_of_ble_eq_true rfl⟩) rfl hl.1 rfl (Nat.le_of_ble_eq_true rfl) dX10_step_28 ⟨Nat.le_of_ble_eq_true rfl, Nat.le_of_ble_eq_true rfl⟩ ?_
    refine lv_if_ne (tgt := 41) hx hb dX10_step_31 (by decide) (fun c_19 => ?_) (fun c_19 => ?_)
    · replace c_19 := bI_t c_19
      obtain ⟨nn, hnn, hx2⟩ := stp_n HAP.1 HAP.2 c_19
      refine lv_iconst (v := (-1)) hx hb dX10_step_41 (by decide) ?_
      refine lv_istore (lv' := [(5, .int (-1)), (4, .int r_6), (0, .ref (a 0)), (1, .int x0), (2, .int x1), (3, .int x2)]) hx hb dX10_step_42 hl (by decide) rfl (fun ls hl => ?_)
      refine lv_iconst (v := 0) hx hb dX10_step_44 (by decide) ?_
      refine lv_istore (lv' := [(6, .int 0), (5, .int (-1)), (4, .int r_6), (0, .ref (a 0)), (1, .int x0), (2, .int x1), (3, .int x2)]) hx hb dX10_step_45 hl (by decide) rfl (fun ls hl => ?_)
      exact lp47 _ 0 nn ((-1) : Int32) w_7 w_8 w_9 w_10 w_11 (I 13) w_12 w_13 w_14 w_15 (Nat.zero_le _) hx2 hnn (Nat.lt_succ_self _) _ _ hP hD hS ls (lv_sub hl [3, 6, 1, 0] rfl)
    · replace c_19 := bI_f c_19
      refine lv_aload_n hx hb dX10_step_34 rfl (lv_at hl 1 rfl) ?_
      refine lv_ldc (v := (-100006)) hx hb hown hw3 dX10_step_35 ?_
      refine kM_i (As := [.int (-100006)]) (rest := []) (q0 := 0) ⟨hx, hb, hml, hown, hts⟩ (c_X10_finding l D cy a _ (va_up (va_up (va_up (va_up (va_up J 19 w_7) 20 w_8) 21 w_9) 22 w_10) 23 w_11) (va_up I 13 (I 13)) (va_up (va_up (va_up (va_up R 11 w_12) 12 w_13) 13 w_14) 14 w_15) RJ (-100006) ) (cwV 1 hts gX10_step_X10_finding rfl rfl rfl (by decide +kernel) ⟨Nat.le_of_ble_eq_true rfl, Nat.le_of_ble_eq_true rfl⟩) hK hN hP hD hS hA rfl rfl rfl hl.1 rfl (Nat.le_of_ble_eq_true rfl) dX10_step_37 ⟨Nat.le_of_ble_eq_true rfl, Nat.le_of_ble_eq_true rfl⟩ (fun r_20 u H locs hw hP hD hS => ?_)
      obtain ⟨rfl, rfl⟩ := hw
      have hP : va_P D vwCl (MW cy a (va_up (va_up (va_up (va_up (va_up J 19 w_7) 20 w_8) 21 w_9) 22 w_10) 23 w_11) (va_up I 13 ((I 13) + 1)) (va_up (va_up (va_up (va_up R 11 w_12) 12 w_13) 13 w_14) 14 w_15) RJ) H := hP
      have hD : va_D A (MW cy a (va_up (va_up (va_up (va_up (va_up J 19 w_7) 20 w_8) 21 w_9) 22 w_10) 23 w_11) (va_up I 13 ((I 13) + 1)) (va_up (va_up (va_up (va_up R 11 w_12) 12 w_13) 13 w_14) 14 w_15) RJ) := hD
      exact wret_i hx hb hr hlocks ((va_up (va_up (va_up (va_up (va_up J 19 w_7) 20 w_8) 21 w_9) 22 w_10) 23 w_11), (va_up I 13 ((I 13) + 1)), (va_up (va_up (va_up (va_up R 11 w_12) 12 w_13) 13 w_14) 14 w_15), RJ) ⟨w_7, w_8, w_9, w_10, w_11, ((I 13) + 1), w_12, w_13, w_14, w_15, trivial, rfl⟩ hP hD hS dX10_step_40
  · refine lv_aload_n hx hb dX10_step_13 rfl (lv_at hl 1 rfl) ?_
    refine lv_iload hx hb dX10_step_14 (lv_at hl 0 rfl) ?_
    refine kM_i (As := [.int r_6]) (rest := []) (q0 := 0) ⟨hx, hb, hml, hown, hts⟩ (c_X10_finding l D cy a _ (va_up (va_up (va_up (va_up (va_up J 19 w_7) 20 w_8) 21 w_9) 22 w_10) 23 w_11) (va_up I 13 (I 13)) (va_up (va_up (va_up (va_up R 11 w_12) 12 w_13) 13 w_14) 14 w_15) RJ r_6 ) (cwV 1 hts gX10_step_X10_finding rfl rfl rfl (by decide +kernel) ⟨Nat.le_of_ble_eq_true rfl, Nat.le_of_ble_eq_true rfl⟩) hK hN hP hD hS hA rfl rfl rfl hl.1 rfl (Nat.le_of_ble_eq_true rfl) dX10_step_16 ⟨Nat.le_of_ble_eq_true rfl, Nat.le_of_ble_eq_true rfl⟩ (fun r_21 u H locs hw hP hD hS => ?_)
    obtain ⟨rfl, rfl⟩ := hw
    have hP : va_P D vwCl (MW cy a (va_up (va_up (va_up (va_up (va_up J 19 w_7) 20 w_8) 21 w_9) 22 w_10) 23 w_11) (va_up I 13 ((I 13) + 1)) (va_up (va_up (va_up (va_up R 11 w_12) 12 w_13) 13 w_14) 14 w_15) RJ) H := hP
    have hD : va_D A (MW cy a (va_up (va_up (va_up (va_up (va_up J 19 w_7) 20 w_8) 21 w_9) 22 w_10) 23 w_11) (va_up I 13 ((I 13) + 1)) (va_up (va_up (va_up (va_up R 11 w_12) 12 w_13) 13 w_14) 14 w_15) RJ) := hD
    exact wret_i hx hb hr hlocks ((va_up (va_up (va_up (va_up (va_up J 19 w_7) 20 w_8) 21 w_9) 22 w_10) 23 w_11), (va_up I 13 ((I 13) + 1)), (va_up (va_up (va_up (va_up R 11 w_12) 12 w_13) 13 w_14) 14 w_15), RJ) ⟨w_7, w_8, w_9, w_10, w_11, ((I 13) + 1), w_12, w_13, w_14, w_15, trivial, rfl⟩ hP hD hS dX10_step_19
theorem dX10_meet_269 : decode cX10_meet 269 = .ok (.lload 5, 2) := by decide +kernel
theorem dX10_meet_271 : decode cX10_meet 271 = .ok (.iload 11, 2) := by decide +kernel
theorem dX10_meet_273 : decode cX10_meet 273 = .ok (.ifCond .eq 10, 3) := by decide +kernel
theorem dX10_meet_283 : decode cX10_meet 283 = .ok (.lconst 0, 1) := by decide +kernel
theorem dX10_meet_284 : decode cX10_meet 284 = .ok (.lor, 1) := by decide +kernel
theorem dX10_meet_285 : decode cX10_meet 285 = .ok (.lstore 5, 2) := by decide +kernel
theorem dX10_meet_287 : decode cX10_meet 287 = .ok (.lload 7, 2) := by decide +kernel
theorem dX10_meet_289 : decode cX10_meet 289 = .ok (.iload 12, 2) := by decide +kernel
theorem dX10_meet_291 : decode cX10_meet 291 = .ok (.ifCond .eq 10, 3) := by decide +kernel
theorem dX10_meet_301 : decode cX10_meet 301 = .ok (.lconst 0, 1) := by decide +kernel
theorem dX10_meet_302 : decode cX10_meet 302 = .ok (.lor, 1) := by decide +kernel
theorem dX10_meet_303 : decode cX10_meet 303 = .ok (.lstore 7, 2) := by decide +kernel
theorem dX10_meet_305 : decode cX10_meet 305 = .ok (.iinc 9 1, 3) := by decide +kernel
theorem dX10_meet_308 : decode cX10_meet 308 = .ok (.goto (-215), 3) := by decide +kernel
theorem dX10_meet_294 : decode cX10_meet 294 = .ok (.lconst 1, 1) := by decide +kernel
theorem dX10_meet_295 : decode cX10_meet 295 = .ok (.iload 9, 2) := by decide +kernel
theorem dX10_meet_297 : decode cX10_meet 297 = .ok (.lshl, 1) := by decide +kernel
theorem dX10_meet_298 : decode cX10_meet 298 = .ok (.goto 4, 3) := by decide +kernel
theorem dX10_meet_276 : decode cX10_meet 276 = .ok (.lconst 1, 1) := by decide +kernel
theorem dX10_meet_277 : decode cX10_meet 277 = .ok (.iload 9, 2) := by decide +kernel
theorem dX10_meet_279 : decode cX10_meet 279 = .ok (.lshl, 1) := by decide +kernel
theorem dX10_meet_280 : decode cX10_meet 280 = .ok (.goto 4, 3) := by decide +kernel
theorem dX10_meet_192 : decode cX10_meet 192 = .ok (.aload_n 0, 1) := by decide +kernel
theorem dX10_meet_193 : decode cX10_meet 193 = .ok (.getfield 81, 3) := by decide +kernel
theorem dX10_meet_196 : decode cX10_meet 196 = .ok (.iload 9, 2) := by decide +kernel
theorem dX10_meet_198 : decode cX10_meet 198 = .ok (.bipush 8, 2) := by decide +kernel
theorem dX10_meet_200 : decode cX10_meet 200 = .ok (.irem, 1) := by decide +kernel
theorem dX10_meet_201 : decode cX10_meet 201 = .ok (.iload 9, 2) := by decide +kernel
theorem dX10_meet_203 : decode cX10_meet 203 = .ok (.bipush 8, 2) := by decide +kernel
theorem dX10_meet_205 : decode cX10_meet 205 = .ok (.idiv, 1) := by decide +kernel
set_option maxRecDepth 20000 in
theorem ggX10_meet_X10_isOn : GoodIn wsX10_meet wsX10_isOn := goodIn_r _ [51, 52, 53, 17, 54, 55, 56, 57] rfl (by decide +kernel)
set_option maxRecDepth 20000 in
theorem gX10_meet_X10_isOn : GoodIn wsX10_meet (va_wsS RX10 108 yX10_isOn wsX10_isOn) := goodIn_app (goodIn_r _ [49, 50, 17] rfl (by decide +kernel)) ggX10_meet_X10_isOn
theorem dX10_meet_206 : decode cX10_meet 206 = .ok (.invokestatic 108, 3) := by decide +kernel
theorem dX10_meet_209 : decode cX10_meet 209 = .ok (.ifCond .eq 57, 3) := by decide +kernel
theorem dX10_meet_266 : decode cX10_meet 266 = .ok (.iconst 0, 1) := by decide +kernel
theorem dX10_meet_267 : decode cX10_meet 267 = .ok (.istore 12, 2) := by decide +kernel
theorem dX10_meet_212 : decode cX10_meet 212 = .ok (.aload_n 0, 1) := by decide +kernel
theorem dX10_meet_213 : decode cX10_meet 213 = .ok (.getfield 81, 3) := by decide +kernel
theorem dX10_meet_216 : decode cX10_meet 216 = .ok (.iload 9, 2) := by decide +kernel
theorem dX10_meet_218 : decode cX10_meet 218 = .ok (.bipush 8, 2) := by decide +kernel
theorem dX10_meet_220 : decode cX10_meet 220 = .ok (.irem, 1) := by decide +kernel
theorem dX10_meet_221 : decode cX10_meet 221 = .ok (.iload 9, 2) := by decide +kernel
theorem dX10_meet_223 : decode cX10_meet 223 = .ok (.bipush 8, 2) := by decide +kernel
theorem dX10_meet_225 : decode cX10_meet 225 = .ok (.idiv, 1) := by decide +kernel
theorem dX10_meet_226 : decode cX10_meet 226 = .ok (.iconst 1, 1) := by decide +kernel
theorem dX10_meet_227 : decode cX10_meet 227 = .ok (.iadd, 1) := by decide +kernel
theorem dX10_meet_228 : decode cX10_meet 228 = .ok (.invokestatic 108, 3) := by decide +kernel
theorem dX10_meet_231 : decode cX10_meet 231 = .ok (.ifCond .eq 35, 3) := by decide +kernel
theorem dX10_meet_234 : decode cX10_meet 234 = .ok (.aload_n 0, 1) := by decide +kernel
theorem dX10_meet_235 : decode cX10_meet 235 = .ok (.getfield 48, 3) := by decide +kernel
theorem dX10_meet_238 : decode cX10_meet 238 = .ok (.iload 10, 2) := by decide +kernel
theorem dX10_meet_240 : decode cX10_meet 240 = .ok (.bipush 9, 2) := by decide +kernel
theorem dX10_meet_242 : decode cX10_meet 242 = .ok (.iadd, 1) := by decide +kernel
theorem dX10_meet_243 : decode cX10_meet 243 = .ok (.iaload, 1) := by decide +kernel
theorem dX10_meet_244 : decode cX10_meet 244 = .ok (.aload_n 0, 1) := by decide +kernel
theorem dX10_meet_245 : decode cX10_meet 245 = .ok (.getfield 48, 3) := by decide +kernel
theorem dX10_meet_248 : decode cX10_meet 248 = .ok (.iload 10, 2) := by decide +kernel
theorem dX10_meet_250 : decode cX10_meet 250 = .ok (.bipush 10, 2) := by decide +kernel
theorem dX10_meet_252 : decode cX10_meet 252 = .ok (.iadd, 1) := by decide +kernel
theorem dX10_meet_253 : decode cX10_meet 253 = .ok (.iaload, 1) := by decide +kernel
theorem dX10_meet_254 : decode cX10_meet 254 = .ok (.isub, 1) := by decide +kernel
theorem dX10_meet_255 : decode cX10_meet 255 = .ok (.invokestatic 263, 3) := by decide +kernel
theorem dX10_meet_258 : decode cX10_meet 258 = .ok (.iconst 3, 1) := by decide +kernel
theorem dX10_meet_259 : decode cX10_meet 259 = .ok (.if_icmp .ne 7, 3) := by decide +kernel
theorem dX10_meet_262 : decode cX10_meet 262 = .ok (.iconst 1, 1) := by decide +kernel
theorem dX10_meet_263 : decode cX10_meet 263 = .ok (.goto 4, 3) := by decide +kernel
theorem dX10_meet_93 : decode cX10_meet 93 = .ok (.iload 9, 2) := by decide +kernel
theorem dX10_meet_95 : decode cX10_meet 95 = .ok (.bipush 64, 2) := by decide +kernel
theorem dX10_meet_97 : decode cX10_meet 97 = .ok (.if_icmp .ge 214, 3) := by decide +kernel
theorem dX10_meet_311 : decode cX10_meet 311 = .ok (.aload_n 0, 1) := by decide +kernel
theorem dX10_meet_312 : decode cX10_meet 312 = .ok (.lload 5, 2) := by decide +kernel
theorem dX10_meet_314 : decode cX10_meet 314 = .ok (.lload 7, 2) := by decide +kernel
set_option maxRecDepth 20000 in
theorem ggX10_meet_X10_numberOf : GoodIn wsX10_meet wsX10_numberOf := goodIn_r _ [138, 10, 55, 56, 17, 57, 94, 95, 96, 97, 98, 72, 71, 70, 85, 86, 87, 88, 99, 100, 101, 102, 93, 139, 140, 141, 142, 143, 144, 145, 146, 147, 148, 149, 150, 151, 152, 153, 154, 155, 156, 157, 158, 159, 160, 161, 162, 163, 164, 165, 166, 167, 168] rfl (by decide +kernel)
set_option maxRecDepth 20000 in
theorem gX10_meet_X10_numberOf : GoodIn wsX10_meet (wsV RX10 223 RX10 yX10_numberOf wsX10_numberOf) := goodIn_app (goodIn_r _ [135, 136, 137, 17] rfl (by decide +kernel)) ggX10_meet_X10_numberOf
theorem dX10_meet_316 : decode cX10_meet 316 = .ok (.invokevirtual 223, 3) := by decide +kernel
theorem dX10_meet_319 : decode cX10_meet 319 = .ok (.ireturn, 1) := by decide +kernel
theorem dX10_meet_100 : decode cX10_meet 100 = .ok (.bipush 9, 2) := by decide +kernel
theorem dX10_meet_102 : decode cX10_meet 102 = .ok (.iload 9, 2) := by decide +kernel
theorem dX10_meet_104 : decode cX10_meet 104 = .ok (.bipush 8, 2) := by decide +kernel
theorem dX10_meet_106 : decode cX10_meet 106 = .ok (.idiv, 1) := by decide +kernel
theorem dX10_meet_107 : decode cX10_meet 107 = .ok (.imul, 1) := by decide +kernel
theorem dX10_meet_108 : decode cX10_meet 108 = .ok (.iload 9, 2) := by decide +kernel
theorem dX10_meet_110 : decode cX10_meet 110 = .ok (.bipush 8, 2) := by decide +kernel
theorem dX10_meet_112 : decode cX10_meet 112 = .ok (.irem, 1) := by decide +kernel
theorem dX10_meet_113 : decode cX10_meet 113 = .ok (.iadd, 1) := by decide +kernel
theorem dX10_meet_114 : decode cX10_meet 114 = .ok (.istore 10, 2) := by decide +kernel
theorem dX10_meet_116 : decode cX10_meet 116 = .ok (.aload_n 0, 1) := by decide +kernel
theorem dX10_meet_117 : decode cX10_meet 117 = .ok (.getfield 81, 3) := by decide +kernel
theorem dX10_meet_120 : decode cX10_meet 120 = .ok (.iload 9, 2) := by decide +kernel
theorem dX10_meet_122 : decode cX10_meet 122 = .ok (.bipush 8, 2) := by decide +kernel
theorem dX10_meet_124 : decode cX10_meet 124 = .ok (.irem, 1) := by decide +kernel
theorem dX10_meet_125 : decode cX10_meet 125 = .ok (.iload 9, 2) := by decide +kernel
theorem dX10_meet_127 : decode cX10_meet 127 = .ok (.bipush 8, 2) := by decide +kernel
theorem dX10_meet_129 : decode cX10_meet 129 = .ok (.idiv, 1) := by decide +kernel
theorem dX10_meet_130 : decode cX10_meet 130 = .ok (.invokestatic 108, 3) := by decide +kernel
theorem dX10_meet_133 : decode cX10_meet 133 = .ok (.ifCond .eq 56, 3) := by decide +kernel
theorem dX10_meet_189 : decode cX10_meet 189 = .ok (.iconst 0, 1) := by decide +kernel
theorem dX10_meet_190 : decode cX10_meet 190 = .ok (.istore 11, 2) := by decide +kernel
theorem dX10_meet_136 : decode cX10_meet 136 = .ok (.aload_n 0, 1) := by decide +kernel
theorem dX10_meet_137 : decode cX10_meet 137 = .ok (.getfield 81, 3) := by decide +kernel
theorem dX10_meet_140 : decode cX10_meet 140 = .ok (.iload 9, 2) := by decide +kernel
theorem dX10_meet_142 : decode cX10_meet 142 = .ok (.bipush 8, 2) := by decide +kernel
theorem dX10_meet_144 : decode cX10_meet 144 = .ok (.irem, 1) := by decide +kernel
theorem dX10_meet_145 : decode cX10_meet 145 = .ok (.iconst 1, 1) := by decide +kernel
theorem dX10_meet_146 : decode cX10_meet 146 = .ok (.iadd, 1) := by decide +kernel
theorem dX10_meet_147 : decode cX10_meet 147 = .ok (.iload 9, 2) := by decide +kernel
theorem dX10_meet_149 : decode cX10_meet 149 = .ok (.bipush 8, 2) := by decide +kernel
theorem dX10_meet_151 : decode cX10_meet 151 = .ok (.idiv, 1) := by decide +kernel
theorem dX10_meet_152 : decode cX10_meet 152 = .ok (.invokestatic 108, 3) := by decide +kernel
theorem dX10_meet_155 : decode cX10_meet 155 = .ok (.ifCond .eq 34, 3) := by decide +kernel
theorem dX10_meet_158 : decode cX10_meet 158 = .ok (.aload_n 0, 1) := by decide +kernel
theorem dX10_meet_159 : decode cX10_meet 159 = .ok (.getfield 48, 3) := by decide +kernel
theorem dX10_meet_162 : decode cX10_meet 162 = .ok (.iload 10, 2) := by decide +kernel
theorem dX10_meet_164 : decode cX10_meet 164 = .ok (.iconst 1, 1) := by decide +kernel
theorem dX10_meet_165 : decode cX10_meet 165 = .ok (.iadd, 1) := by decide +kernel
theorem dX10_meet_166 : decode cX10_meet 166 = .ok (.iaload, 1) := by decide +kernel
theorem dX10_meet_167 : decode cX10_meet 167 = .ok (.aload_n 0, 1) := by decide +kernel
theorem dX10_meet_168 : decode cX10_meet 168 = .ok (.getfield 48, 3) := by decide +kernel
theorem dX10_meet_171 : decode cX10_meet 171 = .ok (.iload 10, 2) := by decide +kernel
theorem dX10_meet_173 : decode cX10_meet 173 = .ok (.bipush 10, 2) := by decide +kernel
theorem dX10_meet_175 : decode cX10_meet 175 = .ok (.iadd, 1) := by decide +kernel
theorem dX10_meet_176 : decode cX10_meet 176 = .ok (.iaload, 1) := by decide +kernel
theorem dX10_meet_177 : decode cX10_meet 177 = .ok (.isub, 1) := by decide +kernel
theorem dX10_meet_178 : decode cX10_meet 178 = .ok (.invokestatic 263, 3) := by decide +kernel
theorem dX10_meet_181 : decode cX10_meet 181 = .ok (.iconst 3, 1) := by decide +kernel
theorem dX10_meet_182 : decode cX10_meet 182 = .ok (.if_icmp .ne 7, 3) := by decide +kernel
theorem dX10_meet_185 : decode cX10_meet 185 = .ok (.iconst 1, 1) := by decide +kernel
theorem dX10_meet_186 : decode cX10_meet 186 = .ok (.goto 4, 3) := by decide +kernel
theorem dX10_meet_29 : decode cX10_meet 29 = .ok (.iload 9, 2) := by decide +kernel
theorem dX10_meet_31 : decode cX10_meet 31 = .ok (.bipush 81, 2) := by decide +kernel
theorem dX10_meet_33 : decode cX10_meet 33 = .ok (.if_icmp .ge 57, 3) := by decide +kernel
theorem dX10_meet_90 : decode cX10_meet 90 = .ok (.iconst 0, 1) := by decide +kernel
theorem dX10_meet_91 : decode cX10_meet 91 = .ok (.istore 9, 2) := by decide +kernel
theorem dX10_meet_36 : decode cX10_meet 36 = .ok (.aload_n 0, 1) := by decide +kernel
theorem dX10_meet_37 : decode cX10_meet 37 = .ok (.getfield 48, 3) := by decide +kernel
theorem dX10_meet_40 : decode cX10_meet 40 = .ok (.iload 9, 2) := by decide +kernel
theorem dX10_meet_42 : decode cX10_meet 42 = .ok (.iload_n 3, 1) := by decide +kernel
theorem dX10_meet_43 : decode cX10_meet 43 = .ok (.ifCond .eq 23, 3) := by decide +kernel
theorem dX10_meet_66 : decode cX10_meet 66 = .ok (.aload_n 0, 1) := by decide +kernel
theorem dX10_meet_67 : decode cX10_meet 67 = .ok (.getfield 48, 3) := by decide +kernel
theorem dX10_meet_70 : decode cX10_meet 70 = .ok (.iload 9, 2) := by decide +kernel
theorem dX10_meet_72 : decode cX10_meet 72 = .ok (.iaload, 1) := by decide +kernel
theorem dX10_meet_73 : decode cX10_meet 73 = .ok (.aload_n 0, 1) := by decide +kernel
theorem dX10_meet_74 : decode cX10_meet 74 = .ok (.getfield 51, 3) := by decide +kernel
theorem dX10_meet_77 : decode cX10_meet 77 = .ok (.iload 9, 2) := by decide +kernel
theorem dX10_meet_79 : decode cX10_meet 79 = .ok (.iaload, 1) := by decide +kernel
theorem dX10_meet_80 : decode cX10_meet 80 = .ok (.invokestatic 283, 3) := by decide +kernel
theorem dX10_meet_83 : decode cX10_meet 83 = .ok (.iastore, 1) := by decide +kernel
theorem dX10_meet_84 : decode cX10_meet 84 = .ok (.iinc 9 1, 3) := by decide +kernel
theorem dX10_meet_87 : decode cX10_meet 87 = .ok (.goto (-58), 3) := by decide +kernel
theorem dX10_meet_46 : decode cX10_meet 46 = .ok (.aload_n 0, 1) := by decide +kernel
theorem dX10_meet_47 : decode cX10_meet 47 = .ok (.getfield 48, 3) := by decide +kernel
theorem dX10_meet_50 : decode cX10_meet 50 = .ok (.iload 9, 2) := by decide +kernel
theorem dX10_meet_52 : decode cX10_meet 52 = .ok (.iaload, 1) := by decide +kernel
theorem dX10_meet_53 : decode cX10_meet 53 = .ok (.aload_n 0, 1) := by decide +kernel
theorem dX10_meet_54 : decode cX10_meet 54 = .ok (.getfield 51, 3) := by decide +kernel
theorem dX10_meet_57 : decode cX10_meet 57 = .ok (.iload 9, 2) := by decide +kernel
theorem dX10_meet_59 : decode cX10_meet 59 = .ok (.iaload, 1) := by decide +kernel
theorem dX10_meet_60 : decode cX10_meet 60 = .ok (.invokestatic 280, 3) := by decide +kernel
theorem dX10_meet_63 : decode cX10_meet 63 = .ok (.goto 20, 3) := by decide +kernel
theorem dX10_meet_0 : decode cX10_meet 0 = .ok (.aload_n 0, 1) := by decide +kernel
theorem dX10_meet_1 : decode cX10_meet 1 = .ok (.iload_n 1, 1) := by decide +kernel
theorem dX10_meet_2 : decode cX10_meet 2 = .ok (.iload_n 2, 1) := by decide +kernel
set_option maxRecDepth 20000 in
theorem ggX10_meet_X10_against : GoodIn wsX10_meet wsX10_against := goodIn_r _ [18, 19, 20, 21, 22, 2, 1, 23, 24, 25, 17, 26, 10, 27, 28, 29, 30, 31, 32, 33, 34, 35, 36, 37, 38, 39, 40, 41, 42, 43, 44, 45, 46, 47, 48, 49, 50, 51, 52, 53, 54, 55, 56, 57, 58, 59, 60, 61, 62, 63, 64, 65, 66, 67, 68, 69, 70, 71, 72, 73, 74, 75, 76, 77, 78, 79, 80, 81, 82, 83, 84, 85, 86, 87, 88, 89, 90, 91, 92, 93, 94, 95, 96, 97, 98, 99, 100, 101, 102, 103, 104, 105, 106, 107, 108, 109, 110, 111, 112, 113, 114, 115, 116, 117, 118, 119, 120, 121, 122, 123, 124, 125, 126, 127, 128, 129, 139, 140, 141, 142, 143, 144, 145, 146, 147, 148, 149, 150, 151, 152, 153, 154, 155, 156, 157, 158, 159, 160, 161, 162, 163, 164, 165, 166, 167, 168] rfl (by decide +kernel)
set_option maxRecDepth 20000 in
theorem gX10_meet_X10_against : GoodIn wsX10_meet (wsV RX10 268 RX10 yX10_against wsX10_against) := goodIn_app (goodIn_r _ [14, 15, 16, 17] rfl (by decide +kernel)) ggX10_meet_X10_against
theorem dX10_meet_3 : decode cX10_meet 3 = .ok (.invokevirtual 268, 3) := by decide +kernel
theorem dX10_meet_6 : decode cX10_meet 6 = .ok (.istore 4, 2) := by decide +kernel
theorem dX10_meet_8 : decode cX10_meet 8 = .ok (.iload 4, 2) := by decide +kernel
theorem dX10_meet_10 : decode cX10_meet 10 = .ok (.ifCond .eq 10, 3) := by decide +kernel
theorem dX10_meet_20 : decode cX10_meet 20 = .ok (.lconst 0, 1) := by decide +kernel
theorem dX10_meet_21 : decode cX10_meet 21 = .ok (.lstore 5, 2) := by decide +kernel
theorem dX10_meet_23 : decode cX10_meet 23 = .ok (.lconst 0, 1) := by decide +kernel
theorem dX10_meet_24 : decode cX10_meet 24 = .ok (.lstore 7, 2) := by decide +kernel
theorem dX10_meet_26 : decode cX10_meet 26 = .ok (.iconst 0, 1) := by decide +kernel
theorem dX10_meet_27 : decode cX10_meet 27 = .ok (.istore 9, 2) := by decide +kernel
theorem dX10_meet_13 : decode cX10_meet 13 = .ok (.aload_n 0, 1) := by decide +kernel
theorem dX10_meet_14 : decode cX10_meet 14 = .ok (.iload 4, 2) := by decide +kernel
set_option maxRecDepth 20000 in
theorem ggX10_meet_X10_finding : GoodIn wsX10_meet wsX10_finding := goodIn_r _ [133, 134, 139, 140, 141, 142, 143, 144, 145, 146, 147, 148, 149, 150, 151, 152, 153, 154, 155, 156, 157, 158, 159, 160, 161, 162, 163, 164, 165, 166, 167, 168] rfl (by decide +kernel)
set_option maxRecDepth 20000 in
theorem gX10_meet_X10_finding : GoodIn wsX10_meet (wsV RX10 99 RX10 yX10_finding wsX10_finding) := goodIn_app (goodIn_r _ [130, 131, 132, 17] rfl (by decide +kernel)) ggX10_meet_X10_finding
theorem dX10_meet_16 : decode cX10_meet 16 = .ok (.invokevirtual 99, 3) := by decide +kernel
theorem dX10_meet_19 : decode cX10_meet 19 = .ok (.ireturn, 1) := by decide +kernel
set_option maxRecDepth 20000 in
theorem ihX10_meet_10 : ∀ w ∈ u_ws RX10 TX10 30, w ∈ wsX10_meet := fun _ h => List.mem_cons_of_mem _ (List.mem_append_right _ h)
set_option maxHeartbeats 4000000 in
set_option maxRecDepth 100000 in
theorem t_X10_meet (l : Launch) (D : va_G) (cy : Nat → ClassId) (a : Nat → Nat) (sz : Nat) (J : Nat → Int64) (I : Nat → Int32) (R : Nat → Nat → Int32) (RJ : Nat → Nat → Int64) (x0 : Int32) (x1 : Int32) (x2 : Bool) (hM : MI I R) : Met l yX10_meet wsX10_meet ({ frames := 7, cells := 0, slots := 0, locals := 159 }) (va_Pc [.ref (a 0), .int x0, .int x1, .int (bI x2)] (PW D cy sz (MW cy a J I R RJ))) (va_Qi (fun r (u : MS) => ∃ (w0 : Int64), ∃ (w1 : Int64), ∃ (w2 : Int64), ∃ (w3 : Int64), ∃ (w4 : Int64), ∃ (w5 : Int32), ∃ (w6 : Nat → Int32), ∃ (w7 : Nat → Int32), ∃ (w8 : Nat → Int32), ∃ (w9 : Nat → Int32), (True) ∧ u = ((va_up (va_up (va_up (va_up (va_up J 19 w0) 20 w1) 21 w2) 22 w3) 23 w4), (va_up I 13 w5), (va_up (va_up (va_up (va_up R 11 w6) 12 w7) 13 w8) 14 w9), RJ)) (BW D (va_A (MW cy a J I R RJ) sz) (MWu cy a)) (va_A (MW cy a J I R RJ) sz)) 0 0 (va_A (MW cy a J I R RJ) sz) := by
  refine Met.ofW (cc := cX10_meet) (maxL := 13) (ret := (some .int)) (by decide) rfl ?_
  intro p e s m args below meth c s₁ B hml hv
  obtain ⟨rfl, rfl, hP, hK, hN, hD0⟩ := hv
  have hx := B.exec
  have hb := B.bytes
  have hr := B.returns
  have hts := atoms_spec (ws := wsX10_meet) B.pre
  have hown : s.vm.findClass RX10 = some m.cls := findClass_of_methodNamed B.named
  have hlocks := B.notSynchronized
  have hw0 := hts (.fieldLink RX10 81 "ParquetLayerModel" "floor" "J") (by decide +kernel)
  have hw1 := hts (.fieldLink RX10 48 "ParquetLayerModel" "one" "[I") (by decide +kernel)
  have hw2 := hts (.methodLink RX10 263 Lib.Math.abs.name) (by decide +kernel)
  have hw3 := hts (.static Lib.Math.abs.name) (by decide +kernel)
  have hw4 := hts (.initialized "java/lang/Math") (by decide +kernel)
  have hw5 := hts (.code Lib.Math.abs.name Lib.Math.abs.code 1 (some .int)) (by decide +kernel)
  have hw6 := hts (.fieldLink RX10 51 "ParquetLayerModel" "two" "[I") (by decide +kernel)
  have hw7 := hts (.methodLink RX10 283 Lib.Math.min.name) (by decide +kernel)
  have hw8 := hts (.static Lib.Math.min.name) (by decide +kernel)
  have hw9 := hts (.code Lib.Math.min.name Lib.Math.min.code 2 (some .int)) (by decide +kernel)
  have hw10 := hts (.methodLink RX10 280 Lib.Math.max.name) (by decide +kernel)
  have hw11 := hts (.static Lib.Math.max.name) (by decide +kernel)
  have hw12 := hts (.code Lib.Math.max.name Lib.Math.max.code 2 (some .int)) (by decide +kernel)
  have hi10 := ihX10_meet_10
  have hD := hD0.self (sz := s.heap.size)
  generalize hAe : va_A (MW cy a J I R RJ) s.heap.size = A at hD ⊢
  have hA : ∀ q : Nat, s.heap.size ≤ q → A q := fun q h => by rw [← hAe]; exact Or.inr h
  have hS : va_S A s.heap s.heap [] := va_S.rf
  have hl := lv_entry ([.ref (a 0), .int x0, .int x1, .int (bI x2)]) (n := 13) (Nat.le_of_ble_eq_true rfl)
  rw [lg_entry_eq]
  generalize (lg_sl ([.ref (a 0), .int x0, .int x1, .int (bI x2)]) ++ List.replicate (13 - (lg_sl ([.ref (a 0), .int x0, .int x1, .int (bI x2)])).length) Slot.unset).toArray = ls at hl ⊢
  have hl : lv_has ls 13 [(0, .ref (a 0)), (1, .int x0), (2, .int x1), (3, .int (bI x2))] := hl
  have hP : va_P D vwCl (MW cy a (va_up (va_up (va_up (va_up (va_up J 19 (J 19)) 20 (J 20)) 21 (J 21)) 22 (J 22)) 23 (J 23)) (va_up I 13 (I 13)) (va_up (va_up (va_up (va_up R 11 (R 11)) 12 (R 12)) 13 (R 13)) 14 (R 14)) RJ) s.heap := hP
  have hD : va_D A (MW cy a (va_up (va_up (va_up (va_up (va_up J 19 (J 19)) 20 (J 20)) 21 (J 21)) 22 (J 22)) 23 (J 23)) (va_up I 13 (I 13)) (va_up (va_up (va_up (va_up R 11 (R 11)) 12 (R 12)) 13 (R 13)) 14 (R 14)) RJ) := hD
  have lp93 : ∀ (n93 : Nat), ∀ (f9 : Nat) (v5_93 : Int64) (v7_93 : Int64) (m0_93 : Int64) (m1_93 : Int64) (m2_93 : Int64) (m3_93 : Int64) (m4_93 : Int64) (m5_93 : Int32) (m6_93 : Nat → Int32) (m7_93 : Nat → Int32) (m8_93 : Nat → Int32) (m9_93 : Nat → Int32), (f9 ≤ 64) → (64 - f9) < n93 → ∀ (H : Heap) (locs : List Loc), va_P D vwCl (MW cy a (va_up (va_up (va_up (va_up (va_up J 19 m0_93) 20 m1_93) 21 m2_93) 22 m3_93) 23 m4_93) (va_up I 13 m5_93) (va_up (va_up (va_up (va_up R 11 m6_93) 12 m7_93) 13 m8_93) 14 m9_93) RJ) H → va_D A (MW cy a (va_up (va_up (va_up (va_up (va_up J 19 m0_93) 20 m1_93) 21 m2_93) 22 m3_93) 23 m4_93) (va_up I 13 m5_93) (va_up (va_up (va_up (va_up R 11 m6_93) 12 m7_93) 13 m8_93) 14 m9_93) RJ) → va_S A s.heap H locs → ∀ (ls : Array Slot), lv_has ls 13 [(0, .ref (a 0)), (5, .long v5_93), (7, .long v7_93), (9, .int (nI f9))] → W p l e (headSpec wsX10_meet ({ frames := 7, cells := 0, slots := 0, locals := 159 })).room s m ([.ref (a 0), .int x0, .int x1, .int (bI x2)] : List Value).toArray below meth c H locs 0 0 (MQ below (va_Qi (fun r (u : MS) => ∃ (w0 : Int64), ∃ (w1 : Int64), ∃ (w2 : Int64), ∃ (w3 : Int64), ∃ (w4 : Int64), ∃ (w5 : Int32), ∃ (w6 : Nat → Int32), ∃ (w7 : Nat → Int32), ∃ (w8 : Nat → Int32), ∃ (w9 : Nat → Int32), (True) ∧ u = ((va_up (va_up (va_up (va_up (va_up J 19 w0) 20 w1) 21 w2) 22 w3) 23 w4), (va_up I 13 w5), (va_up (va_up (va_up (va_up R 11 w6) 12 w7) 13 w8) 14 w9), RJ)) (BW D A (MWu cy a)) A) ([.ref (a 0), .int x0, .int x1, .int (bI x2)] : List Value).toArray s 0 0 A) (F0 m 93 ls []) := by
    intro n93
    induction n93 with
    | zero => intro f9 v5_93 v7_93 m0_93 m1_93 m2_93 m3_93 m4_93 m5_93 m6_93 m7_93 m8_93 m9_93 hf9 hn; exact absurd hn (Nat.not_lt_zero _)
    | succ n93 ih93 =>
      intro f9 v5_93 v7_93 m0_93 m1_93 m2_93 m3_93 m4_93 m5_93 m6_93 m7_93 m8_93 m9_93 hf9 hn93 H locs hP hD hS ls hl
      have lp192 : ∀ (v11_192 : Bool) (m0_192 : Int64) (m1_192 : Int64) (m2_192 : Int64) (m3_192 : Int64) (m4_192 : Int64) (m5_192 : Int32) (m6_192 : Nat → Int32) (m7_192 : Nat → Int32) (m8_192 : Nat → Int32) (m9_192 : Nat → Int32), (f9 < 64) → ∀ (H : Heap) (locs : List Loc), va_P D vwCl (MW cy a (va_up (va_up (va_up (va_up (va_up J 19 m0_192) 20 m1_192) 21 m2_192) 22 m3_192) 23 m4_192) (va_up I 13 m5_192) (va_up (va_up (va_up (va_up R 11 m6_192) 12 m7_192) 13 m8_192) 14 m9_192) RJ) H → va_D A (MW cy a (va_up (va_up (va_up (va_up (va_up J 19 m0_192) 20 m1_192) 21 m2_192) 22 m3_192) 23 m4_192) (va_up I 13 m5_192) (va_up (va_up (va_up (va_up R 11 m6_192) 12 m7_192) 13 m8_192) 14 m9_192) RJ) → va_S A s.heap H locs → ∀ (ls : Array Slot), lv_has ls 13 [(0, .ref (a 0)), (5, .long v5_93), (7, .long v7_93), (9, .int (nI f9)), (10, .int (nI (9 * (f9 / 8) + f9 % 8))), (11, .int (bI v11_192))] → W p l e (headSpec wsX10_meet ({ frames := 7, cells := 0, slots := 0, locals := 159 })).room s m ([.ref (a 0), .int x0, .int x1, .int (bI x2)] : List Value).toArray below meth c H locs 0 0 (MQ below (va_Qi (fun r (u : MS) => ∃ (w0 : Int64), ∃ (w1 : Int64), ∃ (w2 : Int64), ∃ (w3 : Int64), ∃ (w4 : Int64), ∃ (w5 : Int32), ∃ (w6 : Nat → Int32), ∃ (w7 : Nat → Int32), ∃ (w8 : Nat → Int32), ∃ (w9 : Nat → Int32), (True) ∧ u = ((va_up (va_up (va_up (va_up (va_up J 19 w0) 20 w1) 21 w2) 22 w3) 23 w4), (va_up I 13 w5), (va_up (va_up (va_up (va_up R 11 w6) 12 w7) 13 w8) 14 w9), RJ)) (BW D A (MWu cy a)) A) ([.ref (a 0), .int x0, .int x1, .int (bI x2)] : List Value).toArray s 0 0 A) (F0 m 192 ls []) := by
        intro v11_192 m0_192 m1_192 m2_192 m3_192 m4_192 m5_192 m6_192 m7_192 m8_192 m9_192 hlt_f9 H locs hP hD hS ls hl
        have lp269 : ∀ (v12_269 : Bool) (m0_269 : Int64) (m1_269 : Int64) (m2_269 : Int64) (m3_269 : Int64) (m4_269 : Int64) (m5_269 : Int32) (m6_269 : Nat → Int32) (m7_269 : Nat → Int32) (m8_269 : Nat → Int32) (m9_269 : Nat → Int32), (f9 < 64) → ∀ (H : Heap) (locs : List Loc), va_P D vwCl (MW cy a (va_up (va_up (va_up (va_up (va_up J 19 m0_269) 20 m1_269) 21 m2_269) 22 m3_269) 23 m4_269) (va_up I 13 m5_269) (va_up (va_up (va_up (va_up R 11 m6_269) 12 m7_269) 13 m8_269) 14 m9_269) RJ) H → va_D A (MW cy a (va_up (va_up (va_up (va_up (va_up J 19 m0_269) 20 m1_269) 21 m2_269) 22 m3_269) 23 m4_269) (va_up I 13 m5_269) (va_up (va_up (va_up (va_up R 11 m6_269) 12 m7_269) 13 m8_269) 14 m9_269) RJ) → va_S A s.heap H locs → ∀ (ls : Array Slot), lv_has ls 13 [(0, .ref (a 0)), (5, .long v5_93), (7, .long v7_93), (9, .int (nI f9)), (11, .int (bI v11_192)), (12, .int (bI v12_269))] → W p l e (headSpec wsX10_meet ({ frames := 7, cells := 0, slots := 0, locals := 159 })).room s m ([.ref (a 0), .int x0, .int x1, .int (bI x2)] : List Value).toArray below meth c H locs 0 0 (MQ below (va_Qi (fun r (u : MS) => ∃ (w0 : Int64), ∃ (w1 : Int64), ∃ (w2 : Int64), ∃ (w3 : Int64), ∃ (w4 : Int64), ∃ (w5 : Int32), ∃ (w6 : Nat → Int32), ∃ (w7 : Nat → Int32), ∃ (w8 : Nat → Int32), ∃ (w9 : Nat → Int32), (True) ∧ u = ((va_up (va_up (va_up (va_up (va_up J 19 w0) 20 w1) 21 w2) 22 w3) 23 w4), (va_up I 13 w5), (va_up (va_up (va_up (va_up R 11 w6) 12 w7) 13 w8) 14 w9), RJ)) (BW D A (MWu cy a)) A) ([.ref (a 0), .int x0, .int x1, .int (bI x2)] : List Value).toArray s 0 0 A) (F0 m 269 ls []) := by
          intro v12_269 m0_269 m1_269 m2_269 m3_269 m4_269 m5_269 m6_269 m7_269 m8_269 m9_269 hlt_f9 H locs hP hD hS ls hl
          refine lv_lload hx hb dX10_meet_269 (lv_at hl 1 rfl) ?_
          refine lv_iload hx hb dX10_meet_271 (lv_at hl 4 rfl) ?_
          refine lv_if_eq (tgt := 283) hx hb dX10_meet_273 (by decide) (fun c_1 => ?_) (fun c_1 => ?_)
          · replace c_1 := bI_f c_1
            refine lv_lconst (v := 0) hx hb dX10_meet_283 (by decide) ?_
            refine lv_lor hx hb dX10_meet_284 ?_
            refine lv_lstore (lv' := [(5, .long (v5_93 ||| 0)), (0, .ref (a 0)), (7, .long v7_93), (9, .int (nI f9)), (11, .int (bI v11_192)), (12, .int (bI v12_269))]) hx hb dX10_meet_285 hl (by decide) rfl (fun ls hl => ?_)
            refine lv_lload hx hb dX10_meet_287 (lv_at hl 2 rfl) ?_
            refine lv_iload hx hb dX10_meet_289 (lv_at hl 5 rfl) ?_
            refine lv_if_eq (tgt := 301) hx hb dX10_meet_291 (by decide) (fun c_2 => ?_) (fun c_2 => ?_)
            · replace c_2 := bI_f c_2
              refine lv_lconst (v := 0) hx hb dX10_meet_301 (by decide) ?_
              refine lv_lor hx hb dX10_meet_302 ?_
              refine lv_lstore (lv' := [(7, .long (v7_93 ||| 0)), (5, .long (v5_93 ||| 0)), (0, .ref (a 0)), (9, .int (nI f9)), (11, .int (bI v11_192)), (12, .int (bI v12_269))]) hx hb dX10_meet_303 hl (by decide) rfl (fun ls hl => ?_)
              refine lv_iinc (v := nI (f9 + 1)) (lv' := [(9, .int (nI (f9 + 1))), (7, .long (v7_93 ||| 0)), (5, .long (v5_93 ||| 0)), (0, .ref (a 0)), (11, .int (bI v11_192)), (12, .int (bI v12_269))]) hx hb dX10_meet_305 hl (k := 3) rfl (nI_1 _) (by decide) rfl (fun ls hl => ?_)
              refine lv_goto (tgt := 93) hx hb dX10_meet_308 (by decide) ?_
              exact ih93 (f9 + 1) (v5_93 ||| 0) (v7_93 ||| 0) m0_269 m1_269 m2_269 m3_269 m4_269 m5_269 m6_269 m7_269 m8_269 m9_269 (by omega) (by omega) _ _ hP hD hS ls (lv_sub hl [3, 2, 1, 0] rfl)
            · replace c_2 := bI_t c_2
              refine lv_lconst (v := 1) hx hb dX10_meet_294 (by decide) ?_
              refine lv_iload hx hb dX10_meet_295 (lv_at hl 3 rfl) ?_
              refine lv_lshl (v := (1 : Int64) <<< ((nI f9 : Int32).toInt64 &&& 63)) hx hb dX10_meet_297 rfl ?_
              refine lv_goto (tgt := 302) hx hb dX10_meet_298 (by decide) ?_
              refine lv_lor hx hb dX10_meet_302 ?_
              refine lv_lstore (lv' := [(7, .long (v7_93 ||| ((1 : Int64) <<< ((nI f9 : Int32).toInt64 &&& 63)))), (5, .long (v5_93 ||| 0)), (0, .ref (a 0)), (9, .int (nI f9)), (11, .int (bI v11_192)), (12, .int (bI v12_269))]) hx hb dX10_meet_303 hl (by decide) rfl (fun ls hl => ?_)
              refine lv_iinc (v := nI (f9 + 1)) (lv' := [(9, .int (nI (f9 + 1))), (7, .long (v7_93 ||| ((1 : Int64) <<< ((nI f9 : Int32).toInt64 &&& 63)))), (5, .long (v5_93 ||| 0)), (0, .ref (a 0)), (11, .int (bI v11_192)), (12, .int (bI v12_269))]) hx hb dX10_meet_305 hl (k := 3) rfl (nI_1 _) (by decide) rfl (fun ls hl => ?_)
              refine lv_goto (tgt := 93) hx hb dX10_meet_308 (by decide) ?_
              exact ih93 (f9 + 1) (v5_93 ||| 0) (v7_93 ||| ((1 : Int64) <<< ((nI f9 : Int32).toInt64 &&& 63))) m0_269 m1_269 m2_269 m3_269 m4_269 m5_269 m6_269 m7_269 m8_269 m9_269 (by omega) (by omega) _ _ hP hD hS ls (lv_sub hl [3, 2, 1, 0] rfl)
          · replace c_1 := bI_t c_1
            refine lv_lconst (v := 1) hx hb dX10_meet_276 (by decide) ?_
            refine lv_iload hx hb dX10_meet_277 (lv_at hl 3 rfl) ?_
            refine lv_lshl (v := (1 : Int64) <<< ((nI f9 : Int32).toInt64 &&& 63)) hx hb dX10_meet_279 rfl ?_
            refine lv_goto (tgt := 284) hx hb dX10_meet_280 (by decide) ?_
            refine lv_lor hx hb dX10_meet_284 ?_
            refine lv_lstore (lv' := [(5, .long (v5_93 ||| ((1 : Int64) <<< ((nI f9 : Int32).toInt64 &&& 63)))), (0, .ref (a 0)), (7, .long v7_93), (9, .int (nI f9)), (11, .int (bI v11_192)), (12, .int (bI v12_269))]) hx hb dX10_meet_285 hl (by decide) rfl (fun ls hl => ?_)
            refine lv_lload hx hb dX10_meet_287 (lv_at hl 2 rfl) ?_
            refine lv_iload hx hb dX10_meet_289 (lv_at hl 5 rfl) ?_
            refine lv_if_eq (tgt := 301) hx hb dX10_meet_291 (by decide) (fun c_3 => ?_) (fun c_3 => ?_)
            · replace c_3 := bI_f c_3
              refine lv_lconst (v := 0) hx hb dX10_meet_301 (by decide) ?_
              refine lv_lor hx hb dX10_meet_302 ?_
              refine lv_lstore (lv' := [(7, .long (v7_93 ||| 0)), (5, .long (v5_93 ||| ((1 : Int64) <<< ((nI f9 : Int32).toInt64 &&& 63)))), (0, .ref (a 0)), (9, .int (nI f9)), (11, .int (bI v11_192)), (12, .int (bI v12_269))]) hx hb dX10_meet_303 hl (by decide) rfl (fun ls hl => ?_)
              refine lv_iinc (v := nI (f9 + 1)) (lv' := [(9, .int (nI (f9 + 1))), (7, .long (v7_93 ||| 0)), (5, .long (v5_93 ||| ((1 : Int64) <<< ((nI f9 : Int32).toInt64 &&& 63)))), (0, .ref (a 0)), (11, .int (bI v11_192)), (12, .int (bI v12_269))]) hx hb dX10_meet_305 hl (k := 3) rfl (nI_1 _) (by decide) rfl (fun ls hl => ?_)
              refine lv_goto (tgt := 93) hx hb dX10_meet_308 (by decide) ?_
              exact ih93 (f9 + 1) (v5_93 ||| ((1 : Int64) <<< ((nI f9 : Int32).toInt64 &&& 63))) (v7_93 ||| 0) m0_269 m1_269 m2_269 m3_269 m4_269 m5_269 m6_269 m7_269 m8_269 m9_269 (by omega) (by omega) _ _ hP hD hS ls (lv_sub hl [3, 2, 1, 0] rfl)
            · replace c_3 := bI_t c_3
              refine lv_lconst (v := 1) hx hb dX10_meet_294 (by decide) ?_
              refine lv_iload hx hb dX10_meet_295 (lv_at hl 3 rfl) ?_
              refine lv_lshl (v := (1 : Int64) <<< ((nI f9 : Int32).toInt64 &&& 63)) hx hb dX10_meet_297 rfl ?_
              refine lv_goto (tgt := 302) hx hb dX10_meet_298 (by decide) ?_
              refine lv_lor hx hb dX10_meet_302 ?_
              refine lv_lstore (lv' := [(7, .long (v7_93 ||| ((1 : Int64) <<< ((nI f9 : Int32).toInt64 &&& 63)))), (5, .long (v5_93 ||| ((1 : Int64) <<< ((nI f9 : Int32).toInt64 &&& 63)))), (0, .ref (a 0)), (9, .int (nI f9)), (11, .int (bI v11_192)), (12, .int (bI v12_269))]) hx hb dX10_meet_303 hl (by decide) rfl (fun ls hl => ?_)
              refine lv_iinc (v := nI (f9 + 1)) (lv' := [(9, .int (nI (f9 + 1))), (7, .long (v7_93 ||| ((1 : Int64) <<< ((nI f9 : Int32).toInt64 &&& 63)))), (5, .long (v5_93 ||| ((1 : Int64) <<< ((nI f9 : Int32).toInt64 &&& 63)))), (0, .ref (a 0)), (11, .int (bI v11_192)), (12, .int (bI v12_269))]) hx hb dX10_meet_305 hl (k := 3) rfl (nI_1 _) (by decide) rfl (fun ls hl => ?_)
              refine lv_goto (tgt := 93) hx hb dX10_meet_308 (by decide) ?_
              exact ih93 (f9 + 1) (v5_93 ||| ((1 : Int64) <<< ((nI f9 : Int32).toInt64 &&& 63))) (v7_93 ||| ((1 : Int64) <<< ((nI f9 : Int32).toInt64 &&& 63))) m0_269 m1_269 m2_269 m3_269 m4_269 m5_269 m6_269 m7_269 m8_269 m9_269 (by omega) (by omega) _ _ hP hD hS ls (lv_sub hl [3, 2, 1, 0] rfl)
        refine lv_aload_n hx hb dX10_meet_192 rfl (lv_at hl 0 rfl) ?_
        refine va_get (D := D) (ci := 9) (v := .long (J 0)) (C := RX10) (T := TX10) (N := 30) hx hb hts hi10 hown hK hP 0 rfl rfl 0 (by decide) hw0 (fun _ h9 => h9) rfl dX10_meet_193 ?_
        refine lv_iload hx hb dX10_meet_196 (lv_at hl 3 rfl) ?_
        refine lv_bipush (v := 8) hx hb dX10_meet_198 (by decide) ?_
        refine lv_irem hx hb dX10_meet_200 (by decide) ?_
        refine lv_iload hx hb dX10_meet_201 (lv_at hl 3 rfl) ?_
        refine lv_bipush (v := 8) hx hb dX10_meet_203 (by decide) ?_
        refine lv_idiv hx hb dX10_meet_205 (by decide) ?_
        refine kS_i (As := [.long (J 0), .int ((nI f9) - (nI f9) / 8 * 8), .int ((nI f9) / 8)]) (rest := []) ⟨hx, hb, hml, hown, hts⟩ (c_X10_isOn l (J 0) ((nI f9) - (nI f9) / 8 * 8) ((nI f9) / 8)) (va_cwS 3 hts gX10_meet_X10_isOn rfl rfl rfl (by decide +kernel) ⟨Nat.le_of_ble_eq_true rfl, Nat.le_of_ble_eq_true rfl⟩) rfl hl.1 rfl (Nat.le_of_ble_eq_true rfl) dX10_meet_206 ⟨Nat.le_of_ble_eq_true rfl, Nat.le_of_ble_eq_true rfl⟩ ?_
        refine lv_if_eq (tgt := 266) hx hb dX10_meet_209 (by decide) (fun c_4 => ?_) (fun c_4 => ?_)
        · replace c_4 := bI_f c_4
          refine lv_iconst (v := 0) hx hb dX10_meet_266 (by decide) ?_
          refine lv_istore (lv' := [(12, .int 0), (0, .ref (a 0)), (5, .long v5_93), (7, .long v7_93), (9, .int (nI f9)), (10, .int (nI (9 * (f9 / 8) + f9 % 8))), (11, .int (bI v11_192))]) hx hb dX10_meet_267 hl (by decide) rfl (fun ls hl => ?_)
          exact lp269 false m0_192 m1_192 m2_192 m3_192 m4_192 m5_192 m6_192 m7_192 m8_192 m9_192 hlt_f9  _ _ hP hD hS ls (lv_sub hl [1, 2, 3, 4, 6, 0] rfl)
        · replace c_4 := bI_t c_4
          refine lv_aload_n hx hb dX10_meet_212 rfl (lv_at hl 0 rfl) ?_
          refine va_get (D := D) (ci := 9) (v := .long (J 0)) (C := RX10) (T := TX10) (N := 30) hx hb hts hi10 hown hK hP 0 rfl rfl 0 (by decide) hw0 (fun _ h9 => h9) rfl dX10_meet_213 ?_
          refine lv_iload hx hb dX10_meet_216 (lv_at hl 3 rfl) ?_
          refine lv_bipush (v := 8) hx hb dX10_meet_218 (by decide) ?_
          refine lv_irem hx hb dX10_meet_220 (by decide) ?_
          refine lv_iload hx hb dX10_meet_221 (lv_at hl 3 rfl) ?_
          refine lv_bipush (v := 8) hx hb dX10_meet_223 (by decide) ?_
          refine lv_idiv hx hb dX10_meet_225 (by decide) ?_
          refine lv_iconst (v := 1) hx hb dX10_meet_226 (by decide) ?_
          refine lv_iadd hx hb dX10_meet_227 ?_
          refine kS_i (As := [.long (J 0), .int ((nI f9) - (nI f9) / 8 * 8), .int (((nI f9) / 8) + 1)]) (rest := []) ⟨hx, hb, hml, hown, hts⟩ (c_X10_isOn l (J 0) ((nI f9) - (nI f9) / 8 * 8) (((nI f9) / 8) + 1)) (va_cwS 3 hts gX10_meet_X10_isOn rfl rfl rfl (by decide +kernel) ⟨Nat.le_of_ble_eq_true rfl, Nat.le_of_ble_eq_true rfl⟩) rfl hl.1 rfl (Nat.le_of_ble_eq_true rfl) dX10_meet_228 ⟨Nat.le_of_ble_eq_true rfl, Nat.le_of_ble_eq_true rfl⟩ ?_
          refine lv_if_eq (tgt := 266) hx hb dX10_meet_231 (by decide) (fun c_5 => ?_) (fun c_5 => ?_)
          · replace c_5 := bI_f c_5
            refine lv_iconst (v := 0) hx hb dX10_meet_266 (by decide) ?_
            refine lv_istore (lv' := [(12, .int 0), (0, .ref (a 0)), (5, .long v5_93), (7, .long v7_93), (9, .int (nI f9)), (10, .int (nI (9 * (f9 / 8) + f9 % 8))), (11, .int (bI v11_192))]) hx hb dX10_meet_267 hl (by decide) rfl (fun ls hl => ?_)
            exact lp269 false m0_192 m1_192 m2_192 m3_192 m4_192 m5_192 m6_192 m7_192 m8_192 m9_192 hlt_f9  _ _ hP hD hS ls (lv_sub hl [1, 2, 3, 4, 6, 0] rfl)
          · replace c_5 := bI_t c_5
            refine lv_aload_n hx hb dX10_meet_234 rfl (lv_at hl 0 rfl) ?_
            refine va_get (D := D) (ci := 9) (v := .ref (a 13)) (C := RX10) (T := TX10) (N := 30) hx hb hts hi10 hown hK hP 0 rfl rfl 24 (by decide) hw1 (fun _ h9 => h9) rfl dX10_meet_235 ?_
            refine lv_iload hx hb dX10_meet_238 (lv_at hl 4 rfl) ?_
            refine lv_bipush (v := 9) hx hb dX10_meet_240 (by decide) ?_
            refine lv_iadd hx hb dX10_meet_242 ?_
            refine va_iald hx hb hK hP 13 0 rfl rfl (mp_9 hlt_f9) dX10_meet_243 ?_
            refine lv_aload_n hx hb dX10_meet_244 rfl (lv_at hl 0 rfl) ?_
            refine va_get (D := D) (ci := 9) (v := .ref (a 13)) (C := RX10) (T := TX10) (N := 30) hx hb hts hi10 hown hK hP 0 rfl rfl 24 (by decide) hw1 (fun _ h9 => h9) rfl dX10_meet_245 ?_
            refine lv_iload hx hb dX10_meet_248 (lv_at hl 4 rfl) ?_
            refine lv_bipush (v := 10) hx hb dX10_meet_250 (by decide) ?_
            refine lv_iadd hx hb dX10_meet_252 ?_
            refine va_iald hx hb hK hP 13 0 rfl rfl (mp_10 hlt_f9) dX10_meet_253 ?_
            refine lv_isub hx hb dX10_meet_254 ?_
            refine va_mabs hx hb (by rw [hml]; exact hl.1.symm) hown hw2 hw3 hw4 hw5 (Nat.le_of_ble_eq_true rfl) (Nat.le_of_ble_eq_true rfl) (Nat.le_of_ble_eq_true rfl) (Nat.le_of_ble_eq_true rfl) dX10_meet_255 ?_
            refine lv_iconst (v := 3) hx hb dX10_meet_258 (by decide) ?_
            refine lv_icmp_ne (tgt := 266) hx hb dX10_meet_259 (by decide) (fun c_6 => ?_) (fun c_6 => ?_)
            · refine lv_iconst (v := 0) hx hb dX10_meet_266 (by decide) ?_
              refine lv_istore (lv' := [(12, .int 0), (0, .ref (a 0)), (5, .long v5_93), (7, .long v7_93), (9, .int (nI f9)), (10, .int (nI (9 * (f9 / 8) + f9 % 8))), (11, .int (bI v11_192))]) hx hb dX10_meet_267 hl (by decide) rfl (fun ls hl => ?_)
              exact lp269 false m0_192 m1_192 m2_192 m3_192 m4_192 m5_192 m6_192 m7_192 m8_192 m9_192 hlt_f9  _ _ hP hD hS ls (lv_sub hl [1, 2, 3, 4, 6, 0] rfl)
            · refine lv_iconst (v := 1) hx hb dX10_meet_262 (by decide) ?_
              refine lv_goto (tgt := 267) hx hb dX10_meet_263 (by decide) ?_
              refine lv_istore (lv' := [(12, .int 1), (0, .ref (a 0)), (5, .long v5_93), (7, .long v7_93), (9, .int (nI f9)), (10, .int (nI (9 * (f9 / 8) + f9 % 8))), (11, .int (bI v11_192))]) hx hb dX10_meet_267 hl (by decide) rfl (fun ls hl => ?_)
              exact lp269 true m0_192 m1_192 m2_192 m3_192 m4_192 m5_192 m6_192 m7_192 m8_192 m9_192 hlt_f9  _ _ hP hD hS ls (lv_sub hl [1, 2, 3, 4, 6, 0] rfl)
      refine lv_iload hx hb dX10_meet_93 (lv_at hl 3 rfl) ?_
      refine lv_bipush (v := 64) hx hb dX10_meet_95 (by decide) ?_
      refine lv_icmp_ge (tgt := 311) hx hb dX10_meet_97 (by decide) (fun c_7 => ?_) (fun c_7 => ?_)
      · refine lv_aload_n hx hb dX10_meet_311 rfl (lv_at hl 0 rfl) ?_
        refine lv_lload hx hb dX10_meet_312 (lv_at hl 1 rfl) ?_
        refine lv_lload hx hb dX10_meet_314 (lv_at hl 2 rfl) ?_
        refine kM_i (As := [.long v5_93, .long v7_93]) (rest := []) (q0 := 0) ⟨hx, hb, hml, hown, hts⟩ (t_X10_numberOf l D cy a _ (va_up (va_up (va_up (va_up (va_up J 19 m0_93) 20 m1_93) 21 m2_93) 22 m3_93) 23 m4_93) (va_up I 13 m5_93) (va_up (va_up (va_up (va_up R 11 m6_93) 12 m7_93) 13 m8_93) 14 m9_93) RJ v5_93 v7_93  ) (cwV 2 hts gX10_meet_X10_numberOf rfl rfl rfl (by decide +kernel) ⟨Nat.le_of_ble_eq_true rfl, Nat.le_of_ble_eq_true rfl⟩) hK hN hP hD hS hA rfl rfl rfl hl.1 rfl (Nat.le_of_ble_eq_true rfl) dX10_meet_316 ⟨Nat.le_of_ble_eq_true rfl, Nat.le_of_ble_eq_true rfl⟩ (fun r_8 u H locs hw hP hD hS => ?_)
        obtain ⟨-, rfl⟩ := hw
        have hP : va_P D vwCl (MW cy a (va_up (va_up (va_up (va_up (va_up J 19 m0_93) 20 m1_93) 21 m2_93) 22 m3_93) 23 m4_93) (va_up I 13 m5_93) (va_up (va_up (va_up (va_up R 11 m6_93) 12 m7_93) 13 m8_93) 14 m9_93) RJ) H := hP
        have hD : va_D A (MW cy a (va_up (va_up (va_up (va_up (va_up J 19 m0_93) 20 m1_93) 21 m2_93) 22 m3_93) 23 m4_93) (va_up I 13 m5_93) (va_up (va_up (va_up (va_up R 11 m6_93) 12 m7_93) 13 m8_93) 14 m9_93) RJ) := hD
        exact wret_i hx hb hr hlocks ((va_up (va_up (va_up (va_up (va_up J 19 m0_93) 20 m1_93) 21 m2_93) 22 m3_93) 23 m4_93), (va_up I 13 m5_93), (va_up (va_up (va_up (va_up R 11 m6_93) 12 m7_93) 13 m8_93) 14 m9_93), RJ) ⟨m0_93, m1_93, m2_93, m3_93, m4_93, m5_93, m6_93, m7_93, m8_93, m9_93, trivial, rfl⟩ hP hD hS dX10_meet_319
      · have hlt_f9 := ctr_lt (N := 64) (by decide) hf9 c_7
        refine lv_bipush (v := 9) hx hb dX10_meet_100 (by decide) ?_
        refine lv_iload hx hb dX10_meet_102 (lv_at hl 3 rfl) ?_
        refine lv_bipush (v := 8) hx hb dX10_meet_104 (by decide) ?_
        refine lv_idiv hx hb dX10_meet_106 (by decide) ?_
        refine lv_imul hx hb dX10_meet_107 ?_
        refine lv_iload hx hb dX10_meet_108 (lv_at hl 3 rfl) ?_
        refine lv_bipush (v := 8) hx hb dX10_meet_110 (by decide) ?_
        refine lv_irem hx hb dX10_meet_112 (by decide) ?_
        refine lv_iadd hx hb dX10_meet_113 ?_
        refine wtop_i (y := nI (9 * (f9 / 8) + f9 % 8)) (mp_t ⟨f9, hlt_f9⟩) ?_
        refine lv_istore (lv' := [(10, .int (nI (9 * (f9 / 8) + f9 % 8))), (0, .ref (a 0)), (5, .long v5_93), (7, .long v7_93), (9, .int (nI f9))]) hx hb dX10_meet_114 hl (by decide) rfl (fun ls hl => ?_)
        refine lv_aload_n hx hb dX10_meet_116 rfl (lv_at hl 1 rfl) ?_
        refine va_get (D := D) (ci := 9) (v := .long (J 0)) (C := RX10) (T := TX10) (N := 30) hx hb hts hi10 hown hK hP 0 rfl rfl 0 (by decide) hw0 (fun _ h9 => h9) rfl dX10_meet_117 ?_
        refine lv_iload hx hb dX10_meet_120 (lv_at hl 4 rfl) ?_
        refine lv_bipush (v := 8) hx hb dX10_meet_122 (by decide) ?_
        refine lv_irem hx hb dX10_meet_124 (by decide) ?_
        refine lv_iload hx hb dX10_meet_125 (lv_at hl 4 rfl) ?_
        refine lv_bipush (v := 8) hx hb dX10_meet_127 (by decide) ?_
        refine lv_idiv hx hb dX10_meet_129 (by decide) ?_
        refine kS_i (As := [.long (J 0), .int ((nI f9) - (nI f9) / 8 * 8), .int ((nI f9) / 8)]) (rest := []) ⟨hx, hb, hml, hown, hts⟩ (c_X10_isOn l (J 0) ((nI f9) - (nI f9) / 8 * 8) ((nI f9) / 8)) (va_cwS 3 hts gX10_meet_X10_isOn rfl rfl rfl (by decide +kernel) ⟨Nat.le_of_ble_eq_true rfl, Nat.le_of_ble_eq_true rfl⟩) rfl hl.1 rfl (Nat.le_of_ble_eq_true rfl) dX10_meet_130 ⟨Nat.le_of_ble_eq_true rfl, Nat.le_of_ble_eq_true rfl⟩ ?_
        refine lv_if_eq (tgt := 189) hx hb dX10_meet_133 (by decide) (fun c_9 => ?_) (fun c_9 => ?_)
        · replace c_9 := bI_f c_9
          refine lv_iconst (v := 0) hx hb dX10_meet_189 (by decide) ?_
          refine lv_istore (lv' := [(11, .int 0), (10, .int (nI (9 * (f9 / 8) + f9 % 8))), (0, .ref (a 0)), (5, .long v5_93), (7, .long v7_93), (9, .int (nI f9))]) hx hb dX10_meet_190 hl (by decide) rfl (fun ls hl => ?_)
          exact lp192 false m0_93 m1_93 m2_93 m3_93 m4_93 m5_93 m6_93 m7_93 m8_93 m9_93 hlt_f9  _ _ hP hD hS ls (lv_sub hl [2, 3, 4, 5, 1, 0] rfl)
        · replace c_9 := bI_t c_9
          refine lv_aload_n hx hb dX10_meet_136 rfl (lv_at hl 1 rfl) ?_
          refine va_get (D := D) (ci := 9) (v := .long (J 0)) (C := RX10) (T := TX10) (N := 30) hx hb hts hi10 hown hK hP 0 rfl rfl 0 (by decide) hw0 (fun _ h9 => h9) rfl dX10_meet_137 ?_
          refine lv_iload hx hb dX10_meet_140 (lv_at hl 4 rfl) ?_
          refine lv_bipush (v := 8) hx hb dX10_meet_142 (by decide) ?_
          refine lv_irem hx hb dX10_meet_144 (by decide) ?_
          refine lv_iconst (v := 1) hx hb dX10_meet_145 (by decide) ?_
          refine lv_iadd hx hb dX10_meet_146 ?_
          refine lv_iload hx hb dX10_meet_147 (lv_at hl 4 rfl) ?_
          refine lv_bipush (v := 8) hx hb dX10_meet_149 (by decide) ?_
          refine lv_idiv hx hb dX10_meet_151 (by decide) ?_
          refine kS_i (As := [.long (J 0), .int (((nI f9) - (nI f9) / 8 * 8) + 1), .int ((nI f9) / 8)]) (rest := []) ⟨hx, hb, hml, hown, hts⟩ (c_X10_isOn l (J 0) (((nI f9) - (nI f9) / 8 * 8) + 1) ((nI f9) / 8)) (va_cwS 3 hts gX10_meet_X10_isOn rfl rfl rfl (by decide +kernel) ⟨Nat.le_of_ble_eq_true rfl, Nat.le_of_ble_eq_true rfl⟩) rfl hl.1 rfl (Nat.le_of_ble_eq_true rfl) dX10_meet_152 ⟨Nat.le_of_ble_eq_true rfl, Nat.le_of_ble_eq_true rfl⟩ ?_
          refine lv_if_eq (tgt := 189) hx hb dX10_meet_155 (by decide) (fun c_10 => ?_) (fun c_10 => ?_)
          · replace c_10 := bI_f c_10
            refine lv_iconst (v := 0) hx hb dX10_meet_189 (by decide) ?_
            refine lv_istore (lv' := [(11, .int 0), (10, .int (nI (9 * (f9 / 8) + f9 % 8))), (0, .ref (a 0)), (5, .long v5_93), (7, .long v7_93), (9, .int (nI f9))]) hx hb dX10_meet_190 hl (by decide) rfl (fun ls hl => ?_)
            exact lp192 false m0_93 m1_93 m2_93 m3_93 m4_93 m5_93 m6_93 m7_93 m8_93 m9_93 hlt_f9  _ _ hP hD hS ls (lv_sub hl [2, 3, 4, 5, 1, 0] rfl)
          · replace c_10 := bI_t c_10
            refine lv_aload_n hx hb dX10_meet_158 rfl (lv_at hl 1 rfl) ?_
            refine va_get (D := D) (ci := 9) (v := .ref (a 13)) (C := RX10) (T := TX10) (N := 30) hx hb hts hi10 hown hK hP 0 rfl rfl 24 (by decide) hw1 (fun _ h9 => h9) rfl dX10_meet_159 ?_
            refine lv_iload hx hb dX10_meet_162 (lv_at hl 0 rfl) ?_
            refine lv_iconst (v := 1) hx hb dX10_meet_164 (by decide) ?_
            refine lv_iadd hx hb dX10_meet_165 ?_
            refine va_iald hx hb hK hP 13 0 rfl rfl (mp_1 hlt_f9) dX10_meet_166 ?_
            refine lv_aload_n hx hb dX10_meet_167 rfl (lv_at hl 1 rfl) ?_
            refine va_get (D := D) (ci := 9) (v := .ref (a 13)) (C := RX10) (T := TX10) (N := 30) hx hb hts hi10 hown hK hP 0 rfl rfl 24 (by decide) hw1 (fun _ h9 => h9) rfl dX10_meet_168 ?_
            refine lv_iload hx hb dX10_meet_171 (lv_at hl 0 rfl) ?_
            refine lv_bipush (v := 10) hx hb dX10_meet_173 (by decide) ?_
            refine lv_iadd hx hb dX10_meet_175 ?_
            refine va_iald hx hb hK hP 13 0 rfl rfl (mp_10 hlt_f9) dX10_meet_176 ?_
            refine lv_isub hx hb dX10_meet_177 ?_
            refine va_mabs hx hb (by rw [hml]; exact hl.1.symm) hown hw2 hw3 hw4 hw5 (Nat.le_of_ble_eq_true rfl) (Nat.le_of_ble_eq_true rfl) (Nat.le_of_ble_eq_true rfl) (Nat.le_of_ble_eq_true rfl) dX10_meet_178 ?_
            refine lv_iconst (v := 3) hx hb dX10_meet_181 (by decide) ?_
            refine lv_icmp_ne (tgt := 189) hx hb dX10_meet_182 (by decide) (fun c_11 => ?_) (fun c_11 => ?_)
            · refine lv_iconst (v := 0) hx hb dX10_meet_189 (by decide) ?_
              refine lv_istore (lv' := [(11, .int 0), (10, .int (nI (9 * (f9 / 8) + f9 % 8))), (0, .ref (a 0)), (5, .long v5_93), (7, .long v7_93), (9, .int (nI f9))]) hx hb dX10_meet_190 hl (by decide) rfl (fun ls hl => ?_)
              exact lp192 false m0_93 m1_93 m2_93 m3_93 m4_93 m5_93 m6_93 m7_93 m8_93 m9_93 hlt_f9  _ _ hP hD hS ls (lv_sub hl [2, 3, 4, 5, 1, 0] rfl)
            · refine lv_iconst (v := 1) hx hb dX10_meet_185 (by decide) ?_
              refine lv_goto (tgt := 190) hx hb dX10_meet_186 (by decide) ?_
              refine lv_istore (lv' := [(11, .int 1), (10, .int (nI (9 * (f9 / 8) + f9 % 8))), (0, .ref (a 0)), (5, .long v5_93), (7, .long v7_93), (9, .int (nI f9))]) hx hb dX10_meet_190 hl (by decide) rfl (fun ls hl => ?_)
              exact lp192 true m0_93 m1_93 m2_93 m3_93 m4_93 m5_93 m6_93 m7_93 m8_93 m9_93 hlt_f9  _ _ hP hD hS ls (lv_sub hl [2, 3, 4, 5, 1, 0] rfl)
  have lp29 : ∀ (n29 : Nat), ∀ (i : Nat) (m0_29 : Int64) (m1_29 : Int64) (m2_29 : Int64) (m3_29 : Int64) (m4_29 : Int64) (m5_29 : Int32) (m6_29 : Nat → Int32) (m7_29 : Nat → Int32) (m8_29 : Nat → Int32) (m9_29 : Nat → Int32), (i ≤ 81) → (81 - i) < n29 → ∀ (H : Heap) (locs : List Loc), va_P D vwCl (MW cy a (va_up (va_up (va_up (va_up (va_up J 19 m0_29) 20 m1_29) 21 m2_29) 22 m3_29) 23 m4_29) (va_up I 13 m5_29) (va_up (va_up (va_up (va_up R 11 m6_29) 12 m7_29) 13 m8_29) 14 m9_29) RJ) H → va_D A (MW cy a (va_up (va_up (va_up (va_up (va_up J 19 m0_29) 20 m1_29) 21 m2_29) 22 m3_29) 23 m4_29) (va_up I 13 m5_29) (va_up (va_up (va_up (va_up R 11 m6_29) 12 m7_29) 13 m8_29) 14 m9_29) RJ) → va_S A s.heap H locs → ∀ (ls : Array Slot), lv_has ls 13 [(0, .ref (a 0)), (3, .int (bI x2)), (5, .long 0), (7, .long 0), (9, .int (nI i))] → W p l e (headSpec wsX10_meet ({ frames := 7, cells := 0, slots := 0, locals := 159 })).room s m ([.ref (a 0), .int x0, .int x1, .int (bI x2)] : List Value).toArray below meth c H locs 0 0 (MQ below (va_Qi (fun r (u : MS) => ∃ (w0 : Int64), ∃ (w1 : Int64), ∃ (w2 : Int64), ∃ (w3 : Int64), ∃ (w4 : Int64), ∃ (w5 : Int32), ∃ (w6 : Nat → Int32), ∃ (w7 : Nat → Int32), ∃ (w8 : Nat → Int32), ∃ (w9 : Nat → Int32), (True) ∧ u = ((va_up (va_up (va_up (va_up (va_up J 19 w0) 20 w1) 21 w2) 22 w3) 23 w4), (va_up I 13 w5), (va_up (va_up (va_up (va_up R 11 w6) 12 w7) 13 w8) 14 w9), RJ)) (BW D A (MWu cy a)) A) ([.ref (a 0), .int x0, .int x1, .int (bI x2)] : List Value).toArray s 0 0 A) (F0 m 29 ls []) := by
    intro n29
    induction n29 with
    | zero => intro i m0_29 m1_29 m2_29 m3_29 m4_29 m5_29 m6_29 m7_29 m8_29 m9_29 hi hn; exact absurd hn (Nat.not_lt_zero _)
    | succ n29 ih29 =>
      intro i m0_29 m1_29 m2_29 m3_29 m4_29 m5_29 m6_29 m7_29 m8_29 m9_29 hi hn29 H locs hP hD hS ls hl
      refine lv_iload hx hb dX10_meet_29 (lv_at hl 4 rfl) ?_
      refine lv_bipush (v := 81) hx hb dX10_meet_31 (by decide) ?_
      refine lv_icmp_ge (tgt := 90) hx hb dX10_meet_33 (by decide) (fun c_12 => ?_) (fun c_12 => ?_)
      · refine lv_iconst (v := 0) hx hb dX10_meet_90 (by decide) ?_
        refine lv_istore (lv' := [(9, .int 0), (0, .ref (a 0)), (3, .int (bI x2)), (5, .long 0), (7, .long 0)]) hx hb dX10_meet_91 hl (by decide) rfl (fun ls hl => ?_)
        exact lp93 _ 0 (0 : Int64) (0 : Int64) m0_29 m1_29 m2_29 m3_29 m4_29 m5_29 m6_29 m7_29 m8_29 m9_29 (by omega) (Nat.lt_succ_self _) _ _ hP hD hS ls (lv_sub hl [1, 3, 4, 0] rfl)
      · have hlt_i := ctr_lt (N := 81) (by decide) hi c_12
        refine lv_aload_n hx hb dX10_meet_36 rfl (lv_at hl 0 rfl) ?_
        refine va_get (D := D) (ci := 9) (v := .ref (a 13)) (C := RX10) (T := TX10) (N := 30) hx hb hts hi10 hown hK hP 0 rfl rfl 24 (by decide) hw1 (fun _ h9 => h9) rfl dX10_meet_37 ?_
        refine lv_iload hx hb dX10_meet_40 (lv_at hl 4 rfl) ?_
        refine lv_iload_n hx hb dX10_meet_42 rfl (lv_at hl 1 rfl) ?_
        refine lv_if_eq (tgt := 66) hx hb dX10_meet_43 (by decide) (fun c_13 => ?_) (fun c_13 => ?_)
        · replace c_13 := bI_f c_13
          refine lv_aload_n hx hb dX10_meet_66 rfl (lv_at hl 0 rfl) ?_
          refine va_get (D := D) (ci := 9) (v := .ref (a 13)) (C := RX10) (T := TX10) (N := 30) hx hb hts hi10 hown hK hP 0 rfl rfl 24 (by decide) hw1 (fun _ h9 => h9) rfl dX10_meet_67 ?_
          refine lv_iload hx hb dX10_meet_70 (lv_at hl 4 rfl) ?_
          refine va_iald hx hb hK hP 13 0 rfl rfl (vp_in_nI hlt_i (by decide)) dX10_meet_72 ?_
          refine lv_aload_n hx hb dX10_meet_73 rfl (lv_at hl 0 rfl) ?_
          refine va_get (D := D) (ci := 9) (v := .ref (a 14)) (C := RX10) (T := TX10) (N := 30) hx hb hts hi10 hown hK hP 0 rfl rfl 25 (by decide) hw6 (fun _ h9 => h9) rfl dX10_meet_74 ?_
          refine lv_iload hx hb dX10_meet_77 (lv_at hl 4 rfl) ?_
          refine va_iald hx hb hK hP 14 0 rfl rfl (vp_in_nI hlt_i (by decide)) dX10_meet_79 ?_
          refine va_mmin hx hb (by rw [hml]; exact hl.1.symm) hown hw7 hw8 hw4 hw9 (Nat.le_of_ble_eq_true rfl) (Nat.le_of_ble_eq_true rfl) (Nat.le_of_ble_eq_true rfl) (Nat.le_of_ble_eq_true rfl) dX10_meet_80 ?_
          refine va_iast hx hb hK hP hD hS 13 0 rfl rfl (vp_in_nI hlt_i (by decide)) dX10_meet_83 (fun H locs hP hD hS => ?_)
          have hP : va_P D vwCl (MW cy a (va_up (va_up (va_up (va_up (va_up J 19 m0_29) 20 m1_29) 21 m2_29) 22 m3_29) 23 m4_29) (va_up I 13 m5_29) (va_up (va_up (va_up (va_up R 11 m6_29) 12 m7_29) 13 (upd m8_29 (nI i).toNatClampNeg (if (m9_29 (nI i).toNatClampNeg) < (m8_29 (nI i).toNatClampNeg) then (m9_29 (nI i).toNatClampNeg) else (m8_29 (nI i).toNatClampNeg)))) 14 m9_29) RJ) H := hP
          have hD : va_D A (MW cy a (va_up (va_up (va_up (va_up (va_up J 19 m0_29) 20 m1_29) 21 m2_29) 22 m3_29) 23 m4_29) (va_up I 13 m5_29) (va_up (va_up (va_up (va_up R 11 m6_29) 12 m7_29) 13 (upd m8_29 (nI i).toNatClampNeg (if (m9_29 (nI i).toNatClampNeg) < (m8_29 (nI i).toNatClampNeg) then (m9_29 (nI i).toNatClampNeg) else (m8_29 (nI i).toNatClampNeg)))) 14 m9_29) RJ) := hD
          refine lv_iinc (v := nI (i + 1)) (lv' := [(9, .int (nI (i + 1))), (0, .ref (a 0)), (3, .int (bI x2)), (5, .long 0), (7, .long 0)]) hx hb dX10_meet_84 hl (k := 4) rfl (nI_1 _) (by decide) rfl (fun ls hl => ?_)
          refine lv_goto (tgt := 29) hx hb dX10_meet_87 (by decide) ?_
          exact ih29 (i + 1) m0_29 m1_29 m2_29 m3_29 m4_29 m5_29 m6_29 m7_29 (upd m8_29 (nI i).toNatClampNeg (if (m9_29 (nI i).toNatClampNeg) < (m8_29 (nI i).toNatClampNeg) then (m9_29 (nI i).toNatClampNeg) else (m8_29 (nI i).toNatClampNeg))) m9_29 (by omega) (by omega) _ _ hP hD hS ls (lv_sub hl [1, 2, 3, 4, 0] rfl)
        · replace c_13 := bI_t c_13
          refine lv_aload_n hx hb dX10_meet_46 rfl (lv_at hl 0 rfl) ?_
          refine va_get (D := D) (ci := 9) (v := .ref (a 13)) (C := RX10) (T := TX10) (N := 30) hx hb hts hi10 hown hK hP 0 rfl rfl 24 (by decide) hw1 (fun _ h9 => h9) rfl dX10_meet_47 ?_
          refine lv_iload hx hb dX10_meet_50 (lv_at hl 4 rfl) ?_
          refine va_iald hx hb hK hP 13 0 rfl rfl (vp_in_nI hlt_i (by decide)) dX10_meet_52 ?_
          refine lv_aload_n hx hb dX10_meet_53 rfl (lv_at hl 0 rfl) ?_
          refine va_get (D := D) (ci := 9) (v := .ref (a 14)) (C := RX10) (T := TX10) (N := 30) hx hb hts hi10 hown hK hP 0 rfl rfl 25 (by decide) hw6 (fun _ h9 => h9) rfl dX10_meet_54 ?_
          refine lv_iload hx hb dX10_meet_57 (lv_at hl 4 rfl) ?_
          refine va_iald hx hb hK hP 14 0 rfl rfl (vp_in_nI hlt_i (by decide)) dX10_meet_59 ?_
          refine va_mmax hx hb (by rw [hml]; exact hl.1.symm) hown hw10 hw11 hw4 hw12 (Nat.le_of_ble_eq_true rfl) (Nat.le_of_ble_eq_true rfl) (Nat.le_of_ble_eq_true rfl) (Nat.le_of_ble_eq_true rfl) dX10_meet_60 ?_
          refine lv_goto (tgt := 83) hx hb dX10_meet_63 (by decide) ?_
          refine va_iast hx hb hK hP hD hS 13 0 rfl rfl (vp_in_nI hlt_i (by decide)) dX10_meet_83 (fun H locs hP hD hS => ?_)
          have hP : va_P D vwCl (MW cy a (va_up (va_up (va_up (va_up (va_up J 19 m0_29) 20 m1_29) 21 m2_29) 22 m3_29) 23 m4_29) (va_up I 13 m5_29) (va_up (va_up (va_up (va_up R 11 m6_29) 12 m7_29) 13 (upd m8_29 (nI i).toNatClampNeg (if (m8_29 (nI i).toNatClampNeg) < (m9_29 (nI i).toNatClampNeg) then (m9_29 (nI i).toNatClampNeg) else (m8_29 (nI i).toNatClampNeg)))) 14 m9_29) RJ) H := hP
          have hD : va_D A (MW cy a (va_up (va_up (va_up (va_up (va_up J 19 m0_29) 20 m1_29) 21 m2_29) 22 m3_29) 23 m4_29) (va_up I 13 m5_29) (va_up (va_up (va_up (va_up R 11 m6_29) 12 m7_29) 13 (upd m8_29 (nI i).toNatClampNeg (if (m8_29 (nI i).toNatClampNeg) < (m9_29 (nI i).toNatClampNeg) then (m9_29 (nI i).toNatClampNeg) else (m8_29 (nI i).toNatClampNeg)))) 14 m9_29) RJ) := hD
          refine lv_iinc (v := nI (i + 1)) (lv' := [(9, .int (nI (i + 1))), (0, .ref (a 0)), (3, .int (bI x2)), (5, .long 0), (7, .long 0)]) hx hb dX10_meet_84 hl (k := 4) rfl (nI_1 _) (by decide) rfl (fun ls hl => ?_)
          refine lv_goto (tgt := 29) hx hb dX10_meet_87 (by decide) ?_
          exact ih29 (i + 1) m0_29 m1_29 m2_29 m3_29 m4_29 m5_29 m6_29 m7_29 (upd m8_29 (nI i).toNatClampNeg (if (m8_29 (nI i).toNatClampNeg) < (m9_29 (nI i).toNatClampNeg) then (m9_29 (nI i).toNatClampNeg) else (m8_29 (nI i).toNatClampNeg))) m9_29 (by omega) (by omega) _ _ hP hD hS ls (lv_sub hl [1, 2, 3, 4, 0] rfl)
  refine lv_aload_n hx hb dX10_meet_0 rfl (lv_at hl 0 rfl) ?_
  refine lv_iload_n hx hb dX10_meet_1 rfl (lv_at hl 1 rfl) ?_
  refine lv_iload_n hx hb dX10_meet_2 rfl (lv_at hl 2 rfl) ?_
  refine kM_i (As := [.int x0, .int x1]) (rest := []) (q0 := 0) ⟨hx, hb, hml, hown, hts⟩ (t_X10_against l D cy a _ (va_up (va_up (va_up (va_up (va_up J 19 (J 19)) 20 (J 20)) 21 (J 21)) 22 (J 22)) 23 (J 23)) (va_up I 13 (I 13)) (va_up (va_up (va_up (va_up R 11 (R 11)) 12 (R 12)) 13 (R 13)) 14 (R 14)) RJ x0 x1  ⟨hM.1, hM.2.1, hM.2.2.1, hM.2.2.2.1, hM.2.2.2.2.1, hM.2.2.2.2.2⟩) (cwV 2 hts gX10_meet_X10_against rfl rfl rfl (by decide +kernel) ⟨Nat.le_of_ble_eq_true rfl, Nat.le_of_ble_eq_true rfl⟩) hK hN hP hD hS hA rfl rfl rfl hl.1 rfl (Nat.le_of_ble_eq_true rfl) dX10_meet_3 ⟨Nat.le_of_ble_eq_true rfl, Nat.le_of_ble_eq_true rfl⟩ (fun r_14 u H locs hw hP hD hS => ?_)
  obtain ⟨w_15, w_16, w_17, w_18, w_19, w_20, w_21, w_22, w_23, -, rfl⟩ := hw
  have hP : va_P D vwCl (MW cy a (va_up (va_up (va_up (va_up (va_up J 19 w_15) 20 w_16) 21 w_17) 22 w_18) 23 w_19) (va_up I 13 (I 13)) (va_up (va_up (va_up (va_up R 11 w_20) 12 w_21) 13 w_22) 14 w_23) RJ) H := hP
  have hD : va_D A (MW cy a (va_up (va_up (va_up (va_up (va_up J 19 w_15) 20 w_16) 21 w_17) 22 w_18) 23 w_19) (va_up I 13 (I 13)) (va_up (va_up (va_up (va_up R 11 w_20) 12 w_21) 13 w_22) 14 w_23) RJ) := hD
  refine lv_istore (lv' := [(4, .int r_14), (0, .ref (a 0)), (1, .int x0), (2, .int x1), (3, .int (bI x2))]) hx hb dX10_meet_6 hl (by decide) rfl (fun ls hl => ?_)
  refine lv_iload hx hb dX10_meet_8 (lv_at hl 0 rfl) ?_
  refine lv_if_eq (tgt := 20) hx hb dX10_meet_10 (by decide) (fun c_24 => ?_) (fun c_24 => ?_)
  · refine lv_lconst (v := 0) hx hb dX10_meet_20 (by decide) ?_
    refine lv_lstore (lv' := [(5, .long 0), (4, .int r_14), (0, .ref (a 0)), (1, .int x0), (2, .int x1), (3, .int (bI x2))]) hx hb dX10_meet_21 hl (by decide) rfl (fun ls hl => ?_)
    refine lv_lconst (v := 0) hx hb dX10_meet_23 (by decide) ?_
    refine lv_lstore (lv' := [(7, .long 0), (5, .long 0), (4, .int r_14), (0, .ref (a 0)), (1, .int x0), (2, .int x1), (3, .int (bI x2))]) hx hb dX10_meet_24 hl (by decide) rfl (fun ls hl => ?_)
    refine lv_iconst (v := 0) hx hb dX10_meet_26 (by decide) ?_
    refine lv_istore (lv' := [(9, .int 0), (7, .long 0), (5, .long 0), (4, .int r_14), (0, .ref (a 0)), (1, .int x0), (2, .int x1), (3, .int (bI x2))]) hx hb dX10_meet_27 hl (by decide) rfl (fun ls hl => ?_)
    exact lp29 _ 0 w_15 w_16 w_17 w_18 w_19 (I 13) w_20 w_21 w_22 w_23 (by omega) (Nat.lt_succ_self _) _ _ hP hD hS ls (lv_sub hl [4, 7, 2, 1, 0] rfl)
  · refine lv_aload_n hx hb dX10_meet_13 rfl (lv_at hl 1 rfl) ?_
    refine lv_iload hx hb dX10_meet_14 (lv_at hl 0 rfl) ?_
    refine kM_i (As := [.int r_14]) (rest := []) (q0 := 0) ⟨hx, hb, hml, hown, hts⟩ (c_X10_finding l D cy a _ (va_up (va_up (va_up (va_up (va_up J 19 w_15) 20 w_16) 21 w_17) 22 w_18) 23 w_19) (va_up I 13 (I 13)) (va_up (va_up (va_up (va_up R 11 w_20) 12 w_21) 13 w_22) 14 w_23) RJ r_14 ) (cwV 1 hts gX10_meet_X10_finding rfl rfl rfl (by decide +kernel) ⟨Nat.le_of_ble_eq_true rfl, Nat.le_of_ble_eq_true rfl⟩) hK hN hP hD hS hA rfl rfl rfl hl.1 rfl (Nat.le_of_ble_eq_true rfl) dX10_meet_16 ⟨Nat.le_of_ble_eq_true rfl, Nat.le_of_ble_eq_true rfl⟩ (fun r_25 u H locs hw hP hD hS => ?_)
    obtain ⟨rfl, rfl⟩ := hw
    have hP : va_P D vwCl (MW cy a (va_up (va_up (va_up (va_up (va_up J 19 w_15) 20 w_16) 21 w_17) 22 w_18) 23 w_19) (va_up I 13 ((I 13) + 1)) (va_up (va_up (va_up (va_up R 11 w_20) 12 w_21) 13 w_22) 14 w_23) RJ) H := hP
    have hD : va_D A (MW cy a (va_up (va_up (va_up (va_up (va_up J 19 w_15) 20 w_16) 21 w_17) 22 w_18) 23 w_19) (va_up I 13 ((I 13) + 1)) (va_up (va_up (va_up (va_up R 11 w_20) 12 w_21) 13 w_22) 14 w_23) RJ) := hD
    exact wret_i hx hb hr hlocks ((va_up (va_up (va_up (va_up (va_up J 19 w_15) 20 w_16) 21 w_17) 22 w_18) 23 w_19), (va_up I 13 ((I 13) + 1)), (va_up (va_up (va_up (va_up R 11 w_20) 12 w_21) 13 w_22) 14 w_23), RJ) ⟨w_15, w_16, w_17, w_18, w_19, ((I 13) + 1), w_20, w_21, w_22, w_23, trivial, rfl⟩ hP hD hS dX10_meet_19
