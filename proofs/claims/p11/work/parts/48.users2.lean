theorem dX9_measureBoth_0 : decode cX9_measureBoth 0 = .ok (.aload_n 0, 1) := by decide +kernel
theorem dX9_measureBoth_1 : decode cX9_measureBoth 1 = .ok (.getfield 24, 3) := by decide +kernel
theorem dX9_measureBoth_4 : decode cX9_measureBoth 4 = .ok (.aload_n 0, 1) := by decide +kernel
theorem dX9_measureBoth_5 : decode cX9_measureBoth 5 = .ok (.getfield 48, 3) := by decide +kernel
theorem dX9_measureBoth_8 : decode cX9_measureBoth 8 = .ok (.aload_n 1, 1) := by decide +kernel
theorem dX9_measureBoth_9 : decode cX9_measureBoth 9 = .ok (.aload_n 0, 1) := by decide +kernel
theorem dX9_measureBoth_10 : decode cX9_measureBoth 10 = .ok (.getfield 24, 3) := by decide +kernel
theorem dX9_measureBoth_13 : decode cX9_measureBoth 13 = .ok (.getfield 230, 3) := by decide +kernel
set_option maxRecDepth 20000 in
theorem ggX9_measureBoth_X2_measure : GoodIn wsX9_measureBoth wsX2_measure := goodIn_r _ [9, 10, 11, 12, 13, 14, 15, 16, 17, 18, 8, 19, 20, 21, 22, 23, 24, 25, 26, 27, 28, 29, 30, 31, 32, 33, 34, 35, 36, 37, 38, 39, 40, 41, 42, 43, 44, 45, 57, 58, 59, 60, 61, 62, 63, 64] rfl (by decide +kernel)
set_option maxRecDepth 20000 in
theorem gX9_measureBoth_X2_measure : GoodIn wsX9_measureBoth (wsV RX9 234 RX2 yX2_measure wsX2_measure) := goodIn_app (goodIn_r _ [5, 6, 7, 8] rfl (by decide +kernel)) ggX9_measureBoth_X2_measure
theorem dX9_measureBoth_16 : decode cX9_measureBoth 16 = .ok (.invokevirtual 234, 3) := by decide +kernel
theorem dX9_measureBoth_19 : decode cX9_measureBoth 19 = .ok (.aload_n 0, 1) := by decide +kernel
theorem dX9_measureBoth_20 : decode cX9_measureBoth 20 = .ok (.getfield 24, 3) := by decide +kernel
theorem dX9_measureBoth_23 : decode cX9_measureBoth 23 = .ok (.aload_n 0, 1) := by decide +kernel
theorem dX9_measureBoth_24 : decode cX9_measureBoth 24 = .ok (.getfield 48, 3) := by decide +kernel
theorem dX9_measureBoth_27 : decode cX9_measureBoth 27 = .ok (.aload_n 2, 1) := by decide +kernel
theorem dX9_measureBoth_28 : decode cX9_measureBoth 28 = .ok (.aload_n 0, 1) := by decide +kernel
theorem dX9_measureBoth_29 : decode cX9_measureBoth 29 = .ok (.getfield 24, 3) := by decide +kernel
theorem dX9_measureBoth_32 : decode cX9_measureBoth 32 = .ok (.getfield 252, 3) := by decide +kernel
theorem dX9_measureBoth_35 : decode cX9_measureBoth 35 = .ok (.invokevirtual 234, 3) := by decide +kernel
theorem dX9_measureBoth_38 : decode cX9_measureBoth 38 = .ok (.return_, 1) := by decide +kernel
set_option maxRecDepth 20000 in
theorem ihX9_measureBoth_2 : ∀ w ∈ u_ws RX2 TX2 5, w ∈ wsX9_measureBoth := fun _ h => List.mem_cons_of_mem _ (List.mem_append_left _ (List.mem_append_right _ h))
set_option maxRecDepth 20000 in
theorem ihX9_measureBoth_9 : ∀ w ∈ u_ws RX9 TX9 11, w ∈ wsX9_measureBoth := fun _ h => List.mem_cons_of_mem _ (List.mem_append_left _ (List.mem_append_left _ (List.mem_append_right _ h)))
set_option maxHeartbeats 4000000 in
set_option maxRecDepth 100000 in
theorem t_X9_measureBoth (l : Launch) (D : va_G) (cy : Nat → ClassId) (a : Nat → Nat) (sz : Nat) (J : Nat → Int64) (I : Nat → Int32) (O : Nat → Option Nat) (R : Nat → Nat → Int32) (RO : Nat → Nat → Option Nat) (LL : va_W) (Y : va_W) (x0 : Nat) (y0 : Int32) (al0 ac0 : Int64) (hm0 : laC x0 y0 al0 ac0 ∈ Y) (x1 : Nat) (y1 : Int32) (al1 ac1 : Int64) (hm1 : laC x1 y1 al1 ac1 ∈ Y) (hQ : ∀ i, i < 81 → vp_in (R 6 i) 81) : Met l yX9_measureBoth wsX9_measureBoth ({ frames := 4, cells := 0, slots := 0, locals := 97 }) (va_Pc [.ref (a 0), .ref x0, .ref x1] (PW D cy sz (CT cy a J I O R RO (LL ++ Y)))) (va_Qv (fun (u : TS) => ∃ (w0 : Int32), ∃ (w1 : Option Nat), ∃ (w2 : Nat → Int32), ∃ (w3 : Nat → Int32), ∃ (w4 : Nat → Int32), ((∀ i, i < 81 → vp_in (w4 i) 81)) ∧ u = (J, (va_up I 99 w0), (va_up O 100 w1), (va_up (va_up (va_up R 4 w2) 5 w3) 6 w4), RO, LL, Y)) (BW D (va_A (CT cy a J I O R RO (LL ++ Y)) sz) (CTu cy a)) (va_A (CT cy a J I O R RO (LL ++ Y)) sz)) 0 0 (va_A (CT cy a J I O R RO (LL ++ Y)) sz) := by
  refine Met.ofW (cc := cX9_measureBoth) (maxL := 3) (ret := none) (by decide) rfl ?_
  intro p e s m args below meth c s₁ B hml hv
  obtain ⟨rfl, rfl, hP, hK, hN, hD0⟩ := hv
  have hx := B.exec
  have hb := B.bytes
  have hr := B.returns
  have hts := atoms_spec (ws := wsX9_measureBoth) B.pre
  have hown : s.vm.findClass RX9 = some m.cls := findClass_of_methodNamed B.named
  have hlocks := B.notSynchronized
  have hw0 := hts (.fieldLink RX9 24 "ParquetLayer" "heights" "LParquetLayer$Heights;") (by decide +kernel)
  have hw1 := hts (.fieldLink RX9 48 "ParquetLayer" "fields" "J") (by decide +kernel)
  have hw2 := hts (.fieldLink RX9 230 "ParquetLayer$Heights" "here" "[I") (by decide +kernel)
  have hw3 := hts (.fieldLink RX9 252 "ParquetLayer$Heights" "there" "[I") (by decide +kernel)
  have hi2 := ihX9_measureBoth_2
  have hi9 := ihX9_measureBoth_9
  have hD := hD0.self (sz := s.heap.size)
  generalize hAe : va_A (CT cy a J I O R RO (LL ++ Y)) s.heap.size = A at hD ⊢
  have hA : ∀ q : Nat, s.heap.size ≤ q → A q := fun q h => by rw [← hAe]; exact Or.inr h
  have hS : va_S A s.heap s.heap [] := va_S.rf
  have hl := lv_entry ([.ref (a 0), .ref x0, .ref x1]) (n := 3) (Nat.le_of_ble_eq_true rfl)
  rw [lg_entry_eq]
  generalize (lg_sl ([.ref (a 0), .ref x0, .ref x1]) ++ List.replicate (3 - (lg_sl ([.ref (a 0), .ref x0, .ref x1])).length) Slot.unset).toArray = ls at hl ⊢
  have hl : lv_has ls 3 [(0, .ref (a 0)), (1, .ref x0), (2, .ref x1)] := hl
  have hP : va_P D vwCl (CT cy a J (va_up I 99 (I 99)) (va_up O 100 (O 100)) (va_up (va_up (va_up R 4 (R 4)) 5 (R 5)) 6 (R 6)) RO (LL ++ Y)) s.heap := hP
  have hD : va_D A (CT cy a J (va_up I 99 (I 99)) (va_up O 100 (O 100)) (va_up (va_up (va_up R 4 (R 4)) 5 (R 5)) 6 (R 6)) RO (LL ++ Y)) := hD
  refine lv_aload_n hx hb dX9_measureBoth_0 rfl (lv_at hl 0 rfl) ?_
  refine va_get (D := D) (ci := 8) (v := .ref (a 3)) (C := RX9) (T := TX9) (N := 11) hx hb hts hi9 hown hK hP 0 rfl rfl 2 (by decide) hw0 (fun _ h9 => h9) rfl dX9_measureBoth_1 ?_
  refine lv_aload_n hx hb dX9_measureBoth_4 rfl (lv_at hl 0 rfl) ?_
  refine va_get (D := D) (ci := 8) (v := .long (J 6)) (C := RX9) (T := TX9) (N := 11) hx hb hts hi9 hown hK hP 0 rfl rfl 6 (by decide) hw1 (fun _ h9 => h9) rfl dX9_measureBoth_5 ?_
  refine lv_aload_n hx hb dX9_measureBoth_8 rfl (lv_at hl 1 rfl) ?_
  refine lv_aload_n hx hb dX9_measureBoth_9 rfl (lv_at hl 0 rfl) ?_
  refine va_get (D := D) (ci := 8) (v := .ref (a 3)) (C := RX9) (T := TX9) (N := 11) hx hb hts hi9 hown hK hP 0 rfl rfl 2 (by decide) hw0 (fun _ h9 => h9) rfl dX9_measureBoth_10 ?_
  refine va_get (D := D) (ci := 1) (v := .ref (a 4)) (C := RX2) (T := TX2) (N := 5) hx hb hts hi2 hown hK hP 3 rfl rfl 0 (by decide) hw2 (fun _ h9 => h9) rfl dX9_measureBoth_13 ?_
  refine kM_v (As := [.long (J 6), .ref x0, .ref (a 4)]) (rest := []) (q0 := 3) ⟨hx, hb, hml, hown, hts⟩ (t_X2_measure4 l D cy a _ J (va_up I 99 (I 99)) (va_up O 100 (O 100)) (va_up (va_up (va_up R 4 (R 4)) 5 (R 5)) 6 (R 6)) RO LL Y (J 6) x0 y0 al0 ac0 hm0 hQ  ) (cwV 3 hts gX9_measureBoth_X2_measure rfl rfl rfl (by decide +kernel) ⟨Nat.le_of_ble_eq_true rfl, Nat.le_of_ble_eq_true rfl⟩) hK hN hP hD hS hA rfl rfl rfl hl.1 rfl (Nat.le_of_ble_eq_true rfl) dX9_measureBoth_16 ⟨Nat.le_of_ble_eq_true rfl, Nat.le_of_ble_eq_true rfl⟩ (fun u H locs hw hP hD hS => ?_)
  obtain ⟨w_2, w_3, w_4, w_5, hp_6, rfl⟩ := hw
  have hP : va_P D vwCl (CT cy a J (va_up I 99 w_2) (va_up O 100 w_3) (va_up (va_up (va_up R 4 w_4) 5 (R 5)) 6 w_5) RO (LL ++ Y)) H := hP
  have hD : va_D A (CT cy a J (va_up I 99 w_2) (va_up O 100 w_3) (va_up (va_up (va_up R 4 w_4) 5 (R 5)) 6 w_5) RO (LL ++ Y)) := hD
  refine lv_aload_n hx hb dX9_measureBoth_19 rfl (lv_at hl 0 rfl) ?_
  refine va_get (D := D) (ci := 8) (v := .ref (a 3)) (C := RX9) (T := TX9) (N := 11) hx hb hts hi9 hown hK hP 0 rfl rfl 2 (by decide) hw0 (fun _ h9 => h9) rfl dX9_measureBoth_20 ?_
  refine lv_aload_n hx hb dX9_measureBoth_23 rfl (lv_at hl 0 rfl) ?_
  refine va_get (D := D) (ci := 8) (v := .long (J 6)) (C := RX9) (T := TX9) (N := 11) hx hb hts hi9 hown hK hP 0 rfl rfl 6 (by decide) hw1 (fun _ h9 => h9) rfl dX9_measureBoth_24 ?_
  refine lv_aload_n hx hb dX9_measureBoth_27 rfl (lv_at hl 2 rfl) ?_
  refine lv_aload_n hx hb dX9_measureBoth_28 rfl (lv_at hl 0 rfl) ?_
  refine va_get (D := D) (ci := 8) (v := .ref (a 3)) (C := RX9) (T := TX9) (N := 11) hx hb hts hi9 hown hK hP 0 rfl rfl 2 (by decide) hw0 (fun _ h9 => h9) rfl dX9_measureBoth_29 ?_
  refine va_get (D := D) (ci := 1) (v := .ref (a 5)) (C := RX2) (T := TX2) (N := 5) hx hb hts hi2 hown hK hP 3 rfl rfl 1 (by decide) hw3 (fun _ h9 => h9) rfl dX9_measureBoth_32 ?_
  refine kM_v (As := [.long (J 6), .ref x1, .ref (a 5)]) (rest := []) (q0 := 3) ⟨hx, hb, hml, hown, hts⟩ (t_X2_measure5 l D cy a _ J (va_up I 99 w_2) (va_up O 100 w_3) (va_up (va_up (va_up R 4 w_4) 5 (R 5)) 6 w_5) RO LL Y (J 6) x1 y1 al1 ac1 hm1 hp_6  ) (cwV 3 hts gX9_measureBoth_X2_measure rfl rfl rfl (by decide +kernel) ⟨Nat.le_of_ble_eq_true rfl, Nat.le_of_ble_eq_true rfl⟩) hK hN hP hD hS hA rfl rfl rfl hl.1 rfl (Nat.le_of_ble_eq_true rfl) dX9_measureBoth_35 ⟨Nat.le_of_ble_eq_true rfl, Nat.le_of_ble_eq_true rfl⟩ (fun u H locs hw hP hD hS => ?_)
  obtain ⟨w_8, w_9, w_10, w_11, hp_12, rfl⟩ := hw
  have hP : va_P D vwCl (CT cy a J (va_up I 99 w_8) (va_up O 100 w_9) (va_up (va_up (va_up R 4 w_4) 5 w_10) 6 w_11) RO (LL ++ Y)) H := hP
  have hD : va_D A (CT cy a J (va_up I 99 w_8) (va_up O 100 w_9) (va_up (va_up (va_up R 4 w_4) 5 w_10) 6 w_11) RO (LL ++ Y)) := hD
  exact wret_v hx hb hr hlocks (J, (va_up I 99 w_8), (va_up O 100 w_9), (va_up (va_up (va_up R 4 w_4) 5 w_10) 6 w_11), RO, LL, Y) ⟨w_8, w_9, w_4, w_10, w_11, hp_12, rfl⟩ hP hD hS dX9_measureBoth_38
theorem dX9_height_0 : decode cX9_height 0 = .ok (.aload_n 0, 1) := by decide +kernel
set_option maxRecDepth 20000 in
theorem ggX9_height_X9_isWhole : GoodIn wsX9_height wsX9_isWhole := goodIn_r _ [11, 3, 12, 13, 14, 10, 15, 16, 17, 18, 19, 20, 21, 22, 23, 24, 25, 26, 27, 28, 29, 30, 31, 32, 33, 34, 35, 36, 37, 38, 39, 40, 41, 42, 43, 44, 45, 46, 93, 94, 95, 96, 97, 98, 99, 100, 101, 102, 103, 109, 110, 111, 112, 113, 114, 115] rfl (by decide +kernel)
set_option maxRecDepth 20000 in
theorem gX9_height_X9_isWhole : GoodIn wsX9_height (wsV RX9 84 RX9 yX9_isWhole wsX9_isWhole) := goodIn_app (goodIn_r _ [7, 8, 9, 10] rfl (by decide +kernel)) ggX9_height_X9_isWhole
theorem dX9_height_1 : decode cX9_height 1 = .ok (.invokevirtual 84, 3) := by decide +kernel
theorem dX9_height_4 : decode cX9_height 4 = .ok (.ifCond .ne 10, 3) := by decide +kernel
theorem dX9_height_14 : decode cX9_height 14 = .ok (.aload_n 0, 1) := by decide +kernel
theorem dX9_height_15 : decode cX9_height 15 = .ok (.getfield 133, 3) := by decide +kernel
theorem dX9_height_18 : decode cX9_height 18 = .ok (.ifnull 15, 3) := by decide +kernel
theorem dX9_height_33 : decode cX9_height 33 = .ok (.aload_n 0, 1) := by decide +kernel
theorem dX9_height_34 : decode cX9_height 34 = .ok (.ldc 137, 2) := by decide +kernel
set_option maxRecDepth 20000 in
theorem ggX9_height_X9_finding : GoodIn wsX9_height wsX9_finding := goodIn_r _ [50, 51, 93, 94, 95, 96, 97, 98, 99, 100, 101, 102, 103] rfl (by decide +kernel)
set_option maxRecDepth 20000 in
theorem gX9_height_X9_finding : GoodIn wsX9_height (wsV RX9 44 RX9 yX9_finding wsX9_finding) := goodIn_app (goodIn_r _ [47, 48, 49, 10] rfl (by decide +kernel)) ggX9_height_X9_finding
theorem dX9_height_36 : decode cX9_height 36 = .ok (.invokevirtual 44, 3) := by decide +kernel
theorem dX9_height_39 : decode cX9_height 39 = .ok (.ireturn, 1) := by decide +kernel
theorem dX9_height_21 : decode cX9_height 21 = .ok (.aload_n 0, 1) := by decide +kernel
theorem dX9_height_22 : decode cX9_height 22 = .ok (.getfield 48, 3) := by decide +kernel
theorem dX9_height_25 : decode cX9_height 25 = .ok (.iload_n 1, 1) := by decide +kernel
theorem dX9_height_26 : decode cX9_height 26 = .ok (.iload_n 2, 1) := by decide +kernel
set_option maxRecDepth 20000 in
theorem ggX9_height_X2_isPoint : GoodIn wsX9_height wsX2_isPoint := goodIn_r _ [55, 56, 57, 29, 58, 36, 37, 38] rfl (by decide +kernel)
set_option maxRecDepth 20000 in
theorem gX9_height_X2_isPoint : GoodIn wsX9_height (va_wsS RX9 226 yX2_isPoint wsX2_isPoint) := goodIn_app (goodIn_r _ [52, 53, 54] rfl (by decide +kernel)) ggX9_height_X2_isPoint
theorem dX9_height_27 : decode cX9_height 27 = .ok (.invokestatic 226, 3) := by decide +kernel
theorem dX9_height_30 : decode cX9_height 30 = .ok (.ifCond .ne 10, 3) := by decide +kernel
theorem dX9_height_40 : decode cX9_height 40 = .ok (.aload_n 0, 1) := by decide +kernel
theorem dX9_height_41 : decode cX9_height 41 = .ok (.getfield 24, 3) := by decide +kernel
theorem dX9_height_44 : decode cX9_height 44 = .ok (.aload_n 0, 1) := by decide +kernel
theorem dX9_height_45 : decode cX9_height 45 = .ok (.getfield 48, 3) := by decide +kernel
theorem dX9_height_48 : decode cX9_height 48 = .ok (.aload_n 0, 1) := by decide +kernel
theorem dX9_height_49 : decode cX9_height 49 = .ok (.getfield 133, 3) := by decide +kernel
theorem dX9_height_52 : decode cX9_height 52 = .ok (.aload_n 0, 1) := by decide +kernel
theorem dX9_height_53 : decode cX9_height 53 = .ok (.getfield 24, 3) := by decide +kernel
theorem dX9_height_56 : decode cX9_height 56 = .ok (.getfield 230, 3) := by decide +kernel
set_option maxRecDepth 20000 in
theorem ggX9_height_X2_measure : GoodIn wsX9_height wsX2_measure := goodIn_r _ [62, 63, 64, 65, 66, 67, 68, 69, 70, 71, 54, 72, 73, 37, 29, 38, 74, 75, 76, 77, 78, 79, 80, 81, 82, 83, 84, 56, 57, 58, 36, 85, 86, 87, 88, 89, 90, 91, 104, 105, 106, 107, 108, 116, 117, 118] rfl (by decide +kernel)
set_option maxRecDepth 20000 in
theorem gX9_height_X2_measure : GoodIn wsX9_height (wsV RX9 234 RX2 yX2_measure wsX2_measure) := goodIn_app (goodIn_r _ [59, 60, 61, 54] rfl (by decide +kernel)) ggX9_height_X2_measure
theorem dX9_height_59 : decode cX9_height 59 = .ok (.invokevirtual 234, 3) := by decide +kernel
theorem dX9_height_62 : decode cX9_height 62 = .ok (.aload_n 0, 1) := by decide +kernel
theorem dX9_height_63 : decode cX9_height 63 = .ok (.getfield 24, 3) := by decide +kernel
theorem dX9_height_66 : decode cX9_height 66 = .ok (.getfield 230, 3) := by decide +kernel
theorem dX9_height_69 : decode cX9_height 69 = .ok (.iload_n 1, 1) := by decide +kernel
theorem dX9_height_70 : decode cX9_height 70 = .ok (.iload_n 2, 1) := by decide +kernel
set_option maxRecDepth 20000 in
theorem ggX9_height_X2_pointOf : GoodIn wsX9_height wsX2_pointOf := goodIn_r _ [76] rfl (by decide +kernel)
set_option maxRecDepth 20000 in
theorem gX9_height_X2_pointOf : GoodIn wsX9_height (va_wsS RX9 238 yX2_pointOf wsX2_pointOf) := goodIn_app (goodIn_r _ [92, 75, 54] rfl (by decide +kernel)) ggX9_height_X2_pointOf
theorem dX9_height_71 : decode cX9_height 71 = .ok (.invokestatic 238, 3) := by decide +kernel
theorem dX9_height_74 : decode cX9_height 74 = .ok (.iaload, 1) := by decide +kernel
theorem dX9_height_75 : decode cX9_height 75 = .ok (.ireturn, 1) := by decide +kernel
theorem dX9_height_7 : decode cX9_height 7 = .ok (.aload_n 0, 1) := by decide +kernel
theorem dX9_height_8 : decode cX9_height 8 = .ok (.ldc 128, 2) := by decide +kernel
theorem dX9_height_10 : decode cX9_height 10 = .ok (.invokevirtual 44, 3) := by decide +kernel
theorem dX9_height_13 : decode cX9_height 13 = .ok (.ireturn, 1) := by decide +kernel
set_option maxRecDepth 20000 in
theorem ihX9_height_2 : ∀ w ∈ u_ws RX2 TX2 5, w ∈ wsX9_height := fun _ h => List.mem_cons_of_mem _ (List.mem_append_left _ (List.mem_append_left _ (List.mem_append_right _ h)))
set_option maxRecDepth 20000 in
theorem ihX9_height_9 : ∀ w ∈ u_ws RX9 TX9 11, w ∈ wsX9_height := fun _ h => List.mem_cons_of_mem _ (List.mem_append_left _ (List.mem_append_left _ (List.mem_append_left _ (List.mem_append_right _ h))))
set_option maxHeartbeats 4000000 in
set_option maxRecDepth 100000 in
theorem t_X9_height (l : Launch) (D : va_G) (cy : Nat → ClassId) (a : Nat → Nat) (sz : Nat) (J : Nat → Int64) (I : Nat → Int32) (O : Nat → Option Nat) (R : Nat → Nat → Int32) (RO : Nat → Nat → Option Nat) (LL : va_W) (Y : va_W) (x0 : Int32) (x1 : Int32) (hQ : ∀ i, i < 81 → vp_in (R 6 i) 81) (hM : CI a Y I O RO) : Met l yX9_height wsX9_height ({ frames := 5, cells := 0, slots := 0, locals := 115 }) (va_Pc [.ref (a 0), .int x0, .int x1] (PW D cy sz (CT cy a J I O R RO (LL ++ Y)))) (va_Qi (fun r (u : TS) => ∃ (w0 : Int32), ∃ (w1 : Int32), ∃ (w2 : Option Nat), ∃ (w3 : Option Nat), ∃ (w4 : Nat → Int32), ∃ (w5 : Nat → Int32), ((layO Y w2) ∧ (∀ i, i < 81 → vp_in (w5 i) 81)) ∧ u = (J, (va_up (va_up I 10 w0) 99 w1), (va_up (va_up O 8 w2) 100 w3), (va_up (va_up R 4 w4) 6 w5), RO, LL, Y)) (BW D (va_A (CT cy a J I O R RO (LL ++ Y)) sz) (CTu cy a)) (va_A (CT cy a J I O R RO (LL ++ Y)) sz)) 0 0 (va_A (CT cy a J I O R RO (LL ++ Y)) sz) := by
  refine Met.ofW (cc := cX9_height) (maxL := 3) (ret := (some .int)) (by decide) rfl ?_
  intro p e s m args below meth c s₁ B hml hv
  obtain ⟨rfl, rfl, hP, hK, hN, hD0⟩ := hv
  have hx := B.exec
  have hb := B.bytes
  have hr := B.returns
  have hts := atoms_spec (ws := wsX9_height) B.pre
  have hown : s.vm.findClass RX9 = some m.cls := findClass_of_methodNamed B.named
  have hlocks := B.notSynchronized
  have hw0 := hts (.fieldLink RX9 133 "ParquetLayer" "hand" "LParquetLayer$Laying;") (by decide +kernel)
  have hw1 := hts (.constant RX9 137 (-100006)) (by decide +kernel)
  have hw2 := hts (.fieldLink RX9 48 "ParquetLayer" "fields" "J") (by decide +kernel)
  have hw3 := hts (.fieldLink RX9 24 "ParquetLayer" "heights" "LParquetLayer$Heights;") (by decide +kernel)
  have hw4 := hts (.fieldLink RX9 230 "ParquetLayer$Heights" "here" "[I") (by decide +kernel)
  have hw5 := hts (.constant RX9 128 (-100004)) (by decide +kernel)
  have hi2 := ihX9_height_2
  have hi9 := ihX9_height_9
  have hD := hD0.self (sz := s.heap.size)
  generalize hAe : va_A (CT cy a J I O R RO (LL ++ Y)) s.heap.size = A at hD ⊢
  have hA : ∀ q : Nat, s.heap.size ≤ q → A q := fun q h => by rw [← hAe]; exact Or.inr h
  have hS : va_S A s.heap s.heap [] := va_S.rf
  have hl := lv_entry ([.ref (a 0), .int x0, .int x1]) (n := 3) (Nat.le_of_ble_eq_true rfl)
  rw [lg_entry_eq]
  generalize (lg_sl ([.ref (a 0), .int x0, .int x1]) ++ List.replicate (3 - (lg_sl ([.ref (a 0), .int x0, .int x1])).length) Slot.unset).toArray = ls at hl ⊢
  have hl : lv_has ls 3 [(0, .ref (a 0)), (1, .int x0), (2, .int x1)] := hl
  have hRO0 := hM.2.2.2.2.2.2.2.2.1
  have hRO1 := hM.2.2.2.2.2.2.2.2.2.1
  have hRO2 := hM.2.2.2.2.2.2.2.2.2.2.1
  have hRO3 := hM.2.2.2.2.2.2.2.2.2.2.2
  have hP : va_P D vwCl (CT cy a J (va_up (va_up I 10 (I 10)) 99 (I 99)) (va_up (va_up O 8 (O 8)) 100 (O 100)) (va_up (va_up R 4 (R 4)) 6 (R 6)) RO (LL ++ Y)) s.heap := hP
  have hD : va_D A (CT cy a J (va_up (va_up I 10 (I 10)) 99 (I 99)) (va_up (va_up O 8 (O 8)) 100 (O 100)) (va_up (va_up R 4 (R 4)) 6 (R 6)) RO (LL ++ Y)) := hD
  refine lv_aload_n hx hb dX9_height_0 rfl (lv_at hl 0 rfl) ?_
  refine kRa_i (As := []) (rest := []) (q0 := 0) ⟨hx, hb, hml, hown, hts⟩ (t_X9_isWhole l D cy a _ J (va_up (va_up I 10 (I 10)) 99 (I 99)) (va_up (va_up O 8 (O 8)) 100 (O 100)) (va_up (va_up R 4 (R 4)) 6 (R 6)) RO LL Y   ⟨hM.1, hM.2.1, hM.2.2.1, hM.2.2.2.1, hM.2.2.2.2.1, hM.2.2.2.2.2.1, hM.2.2.2.2.2.2.1, hM.2.2.2.2.2.2.2.1, hRO0, hRO1, hRO2, hRO3⟩) (cwV 0 hts gX9_height_X9_isWhole rfl rfl rfl (by decide +kernel) ⟨Nat.le_of_ble_eq_true rfl, Nat.le_of_ble_eq_true rfl⟩) hK hN hP hD rfl rfl rfl hl.1 rfl (Nat.le_of_ble_eq_true rfl) dX9_height_1 ⟨Nat.le_of_ble_eq_true rfl, Nat.le_of_ble_eq_true rfl⟩ (fun r_1 hr_2 => ?_)
  obtain ⟨zb_3, rfl⟩ := hr_2
  refine lv_if_ne (tgt := 14) hx hb dX9_height_4 (by decide) (fun c_4 => ?_) (fun c_4 => ?_)
  · replace c_4 := bI_t c_4
    refine lv_aload_n hx hb dX9_height_14 rfl (lv_at hl 0 rfl) ?_
    refine va_get (D := D) (ci := 8) (v := va_rf (O 8)) (C := RX9) (T := TX9) (N := 11) hx hb hts hi9 hown hK hP 0 rfl rfl 8 (by decide) hw0 (fun _ h9 => h9) rfl dX9_height_15 ?_
    refine lv_ifnullO (tgt := 33) hx hb dX9_height_18 (by decide) (fun c_5 => ?_) (fun c_5 => ?_)
    · rw [c_5] at hP hD
      have hi_6 : layO Y none := by rw [← c_5]; exact hM.2.2.1
      refine lv_aload_n hx hb dX9_height_33 rfl (lv_at hl 0 rfl) ?_
      refine lv_ldc (v := (-100006)) hx hb hown hw1 dX9_height_34 ?_
      refine kM_i (As := [.int (-100006)]) (rest := []) (q0 := 0) ⟨hx, hb, hml, hown, hts⟩ (t_X9_finding l D cy a _ J (va_up (va_up I 10 (I 10)) 99 (I 99)) (va_up (va_up O 8 none) 100 (O 100)) (va_up (va_up R 4 (R 4)) 6 (R 6)) RO LL Y ((-100006) : Int32)   ) (cwV 1 hts gX9_height_X9_finding rfl rfl rfl (by decide +kernel) ⟨Nat.le_of_ble_eq_true rfl, Nat.le_of_ble_eq_true rfl⟩) hK hN hP hD hS hA rfl rfl rfl hl.1 rfl (Nat.le_of_ble_eq_true rfl) dX9_height_36 ⟨Nat.le_of_ble_eq_true rfl, Nat.le_of_ble_eq_true rfl⟩ (fun r_7 u H locs hw hP hD hS => ?_)
      obtain ⟨w_8, rfl, rfl⟩ := hw
      have hP : va_P D vwCl (CT cy a J (va_up (va_up I 10 w_8) 99 (I 99)) (va_up (va_up O 8 none) 100 (O 100)) (va_up (va_up R 4 (R 4)) 6 (R 6)) RO (LL ++ Y)) H := hP
      have hD : va_D A (CT cy a J (va_up (va_up I 10 w_8) 99 (I 99)) (va_up (va_up O 8 none) 100 (O 100)) (va_up (va_up R 4 (R 4)) 6 (R 6)) RO (LL ++ Y)) := hD
      exact wret_i hx hb hr hlocks (J, (va_up (va_up I 10 w_8) 99 (I 99)), (va_up (va_up O 8 none) 100 (O 100)), (va_up (va_up R 4 (R 4)) 6 (R 6)), RO, LL, Y) ⟨w_8, (I 99), none, (O 100), (R 4), (R 6), ⟨hi_6, hQ⟩, rfl⟩ hP hD hS dX9_height_39
    · obtain ⟨b_9, v_12, v_13, v_14, e_11, hm_10⟩ := lay_some hM.2.2.1 c_5
      rw [e_11] at hP hD
      have hi_15 : layO Y (some b_9) := by rw [← e_11]; exact hM.2.2.1
      refine lv_aload_n hx hb dX9_height_21 rfl (lv_at hl 0 rfl) ?_
      refine va_get (D := D) (ci := 8) (v := .long (J 6)) (C := RX9) (T := TX9) (N := 11) hx hb hts hi9 hown hK hP 0 rfl rfl 6 (by decide) hw2 (fun _ h9 => h9) rfl dX9_height_22 ?_
      refine lv_iload_n hx hb dX9_height_25 rfl (lv_at hl 1 rfl) ?_
      refine lv_iload_n hx hb dX9_height_26 rfl (lv_at hl 2 rfl) ?_
      refine kSa_i (As := [.long (J 6), .int x0, .int x1]) (rest := []) ⟨hx, hb, hml, hown, hts⟩ (t_X2_isPoint l (J 6) x0 x1 ) (va_cwS 3 hts gX9_height_X2_isPoint rfl rfl rfl (by decide +kernel) ⟨Nat.le_of_ble_eq_true rfl, Nat.le_of_ble_eq_true rfl⟩) rfl hl.1 rfl (Nat.le_of_ble_eq_true rfl) dX9_height_27 ⟨Nat.le_of_ble_eq_true rfl, Nat.le_of_ble_eq_true rfl⟩ (fun r_16 hr_17 => ?_)
      refine lv_if_ne (tgt := 40) hx hb dX9_height_30 (by decide) (fun c_18 => ?_) (fun c_18 => ?_)
      · refine lv_aload_n hx hb dX9_height_40 rfl (lv_at hl 0 rfl) ?_
        refine va_get (D := D) (ci := 8) (v := .ref (a 3)) (C := RX9) (T := TX9) (N := 11) hx hb hts hi9 hown hK hP 0 rfl rfl 2 (by decide) hw3 (fun _ h9 => h9) rfl dX9_height_41 ?_
        refine lv_aload_n hx hb dX9_height_44 rfl (lv_at hl 0 rfl) ?_
        refine va_get (D := D) (ci := 8) (v := .long (J 6)) (C := RX9) (T := TX9) (N := 11) hx hb hts hi9 hown hK hP 0 rfl rfl 6 (by decide) hw2 (fun _ h9 => h9) rfl dX9_height_45 ?_
        refine lv_aload_n hx hb dX9_height_48 rfl (lv_at hl 0 rfl) ?_
        refine va_get (D := D) (ci := 8) (v := .ref b_9) (C := RX9) (T := TX9) (N := 11) hx hb hts hi9 hown hK hP 0 rfl rfl 8 (by decide) hw0 (fun _ h9 => h9) rfl dX9_height_49 ?_
        refine lv_aload_n hx hb dX9_height_52 rfl (lv_at hl 0 rfl) ?_
        refine va_get (D := D) (ci := 8) (v := .ref (a 3)) (C := RX9) (T := TX9) (N := 11) hx hb hts hi9 hown hK hP 0 rfl rfl 2 (by decide) hw3 (fun _ h9 => h9) rfl dX9_height_53 ?_
        refine va_get (D := D) (ci := 1) (v := .ref (a 4)) (C := RX2) (T := TX2) (N := 5) hx hb hts hi2 hown hK hP 3 rfl rfl 0 (by decide) hw4 (fun _ h9 => h9) rfl dX9_height_56 ?_
        refine kM_v (As := [.long (J 6), .ref b_9, .ref (a 4)]) (rest := []) (q0 := 3) ⟨hx, hb, hml, hown, hts⟩ (t_X2_measure4 l D cy a _ J (va_up (va_up I 10 (I 10)) 99 (I 99)) (va_up (va_up O 8 (some b_9)) 100 (O 100)) (va_up (va_up R 4 (R 4)) 6 (R 6)) RO LL Y (J 6) b_9 v_12 v_13 v_14 hm_10 hQ  ) (cwV 3 hts gX9_height_X2_measure rfl rfl rfl (by decide +kernel) ⟨Nat.le_of_ble_eq_true rfl, Nat.le_of_ble_eq_true rfl⟩) hK hN hP hD hS hA rfl rfl rfl hl.1 rfl (Nat.le_of_ble_eq_true rfl) dX9_height_59 ⟨Nat.le_of_ble_eq_true rfl, Nat.le_of_ble_eq_true rfl⟩ (fun u H locs hw hP hD hS => ?_)
        obtain ⟨w_20, w_21, w_22, w_23, hp_24, rfl⟩ := hw
        have hP : va_P D vwCl (CT cy a J (va_up (va_up I 10 (I 10)) 99 w_20) (va_up (va_up O 8 (some b_9)) 100 w_21) (va_up (va_up R 4 w_22) 6 w_23) RO (LL ++ Y)) H := hP
        have hD : va_D A (CT cy a J (va_up (va_up I 10 (I 10)) 99 w_20) (va_up (va_up O 8 (some b_9)) 100 w_21) (va_up (va_up R 4 w_22) 6 w_23) RO (LL ++ Y)) := hD
        refine lv_aload_n hx hb dX9_height_62 rfl (lv_at hl 0 rfl) ?_
        refine va_get (D := D) (ci := 8) (v := .ref (a 3)) (C := RX9) (T := TX9) (N := 11) hx hb hts hi9 hown hK hP 0 rfl rfl 2 (by decide) hw3 (fun _ h9 => h9) rfl dX9_height_63 ?_
        refine va_get (D := D) (ci := 1) (v := .ref (a 4)) (C := RX2) (T := TX2) (N := 5) hx hb hts hi2 hown hK hP 3 rfl rfl 0 (by decide) hw4 (fun _ h9 => h9) rfl dX9_height_66 ?_
        refine lv_iload_n hx hb dX9_height_69 rfl (lv_at hl 1 rfl) ?_
        refine lv_iload_n hx hb dX9_height_70 rfl (lv_at hl 2 rfl) ?_
        refine kS_i (As := [.int x0, .int x1]) (rest := [.ref (a 4)]) ⟨hx, hb, hml, hown, hts⟩ (c_X2_pointOf l x0 x1) (va_cwS 2 hts gX9_height_X2_pointOf rfl rfl rfl (by decide +kernel) ⟨Nat.le_of_ble_eq_true rfl, Nat.le_of_ble_eq_true rfl⟩) rfl hl.1 rfl (Nat.le_of_ble_eq_true rfl) dX9_height_71 ⟨Nat.le_of_ble_eq_true rfl, Nat.le_of_ble_eq_true rfl⟩ ?_
        refine va_iald hx hb hK hP 4 0 rfl rfl (hr_17.2 c_18) dX9_height_74 ?_
        exact wret_i hx hb hr hlocks (J, (va_up (va_up I 10 (I 10)) 99 w_20), (va_up (va_up O 8 (some b_9)) 100 w_21), (va_up (va_up R 4 w_22) 6 w_23), RO, LL, Y) ⟨(I 10), w_20, (some b_9), w_21, w_22, w_23, ⟨hi_15, hp_24⟩, rfl⟩ hP hD hS dX9_height_75
      · refine lv_aload_n hx hb dX9_height_33 rfl (lv_at hl 0 rfl) ?_
        refine lv_ldc (v := (-100006)) hx hb hown hw1 dX9_height_34 ?_
        refine kM_i (As := [.int (-100006)]) (rest := []) (q0 := 0) ⟨hx, hb, hml, hown, hts⟩ (t_X9_finding l D cy a _ J (va_up (va_up I 10 (I 10)) 99 (I 99)) (va_up (va_up O 8 (some b_9)) 100 (O 100)) (va_up (va_up R 4 (R 4)) 6 (R 6)) RO LL Y ((-100006) : Int32)   ) (cwV 1 hts gX9_height_X9_finding rfl rfl rfl (by decide +kernel) ⟨Nat.le_of_ble_eq_true rfl, Nat.le_of_ble_eq_true rfl⟩) hK hN hP hD hS hA rfl rfl rfl hl.1 rfl (Nat.le_of_ble_eq_true rfl) dX9_height_36 ⟨Nat.le_of_ble_eq_true rfl, Nat.le_of_ble_eq_true rfl⟩ (fun r_25 u H locs hw hP hD hS => ?_)
        obtain ⟨w_26, rfl, rfl⟩ := hw
        have hP : va_P D vwCl (CT cy a J (va_up (va_up I 10 w_26) 99 (I 99)) (va_up (va_up O 8 (some b_9)) 100 (O 100)) (va_up (va_up R 4 (R 4)) 6 (R 6)) RO (LL ++ Y)) H := hP
        have hD : va_D A (CT cy a J (va_up (va_up I 10 w_26) 99 (I 99)) (va_up (va_up O 8 (some b_9)) 100 (O 100)) (va_up (va_up R 4 (R 4)) 6 (R 6)) RO (LL ++ Y)) := hD
        exact wret_i hx hb hr hlocks (J, (va_up (va_up I 10 w_26) 99 (I 99)), (va_up (va_up O 8 (some b_9)) 100 (O 100)), (va_up (va_up R 4 (R 4)) 6 (R 6)), RO, LL, Y) ⟨w_26, (I 99), (some b_9), (O 100), (R 4), (R 6), ⟨hi_15, hQ⟩, rfl⟩ hP hD hS dX9_height_39
  · replace c_4 := bI_f c_4
    refine lv_aload_n hx hb dX9_height_7 rfl (lv_at hl 0 rfl) ?_
    refine lv_ldc (v := (-100004)) hx hb hown hw5 dX9_height_8 ?_
    refine kM_i (As := [.int (-100004)]) (rest := []) (q0 := 0) ⟨hx, hb, hml, hown, hts⟩ (t_X9_finding l D cy a _ J (va_up (va_up I 10 (I 10)) 99 (I 99)) (va_up (va_up O 8 (O 8)) 100 (O 100)) (va_up (va_up R 4 (R 4)) 6 (R 6)) RO LL Y ((-100004) : Int32)   ) (cwV 1 hts gX9_height_X9_finding rfl rfl rfl (by decide +kernel) ⟨Nat.le_of_ble_eq_true rfl, Nat.le_of_ble_eq_true rfl⟩) hK hN hP hD hS hA rfl rfl rfl hl.1 rfl (Nat.le_of_ble_eq_true rfl) dX9_height_10 ⟨Nat.le_of_ble_eq_true rfl, Nat.le_of_ble_eq_true rfl⟩ (fun r_27 u H locs hw hP hD hS => ?_)
    obtain ⟨w_28, rfl, rfl⟩ := hw
    have hP : va_P D vwCl (CT cy a J (va_up (va_up I 10 w_28) 99 (I 99)) (va_up (va_up O 8 (O 8)) 100 (O 100)) (va_up (va_up R 4 (R 4)) 6 (R 6)) RO (LL ++ Y)) H := hP
    have hD : va_D A (CT cy a J (va_up (va_up I 10 w_28) 99 (I 99)) (va_up (va_up O 8 (O 8)) 100 (O 100)) (va_up (va_up R 4 (R 4)) 6 (R 6)) RO (LL ++ Y)) := hD
    exact wret_i hx hb hr hlocks (J, (va_up (va_up I 10 w_28) 99 (I 99)), (va_up (va_up O 8 (O 8)) 100 (O 100)), (va_up (va_up R 4 (R 4)) 6 (R 6)), RO, LL, Y) ⟨w_28, (I 99), (O 8), (O 100), (R 4), (R 6), ⟨hM.2.2.1, hQ⟩, rfl⟩ hP hD hS dX9_height_13
theorem dX9_extreme_0 : decode cX9_extreme 0 = .ok (.aload_n 0, 1) := by decide +kernel
set_option maxRecDepth 20000 in
theorem ggX9_extreme_X9_isWhole : GoodIn wsX9_extreme wsX9_isWhole := goodIn_r _ [9, 10, 11, 12, 13, 8, 14, 15, 16, 17, 18, 19, 20, 21, 22, 23, 24, 25, 26, 27, 28, 29, 30, 31, 32, 33, 34, 35, 36, 37, 38, 39, 40, 41, 42, 43, 44, 45, 161, 162, 163, 164, 165, 166, 167, 168, 169, 170, 171, 174, 175, 176, 177, 178, 179, 180] rfl (by decide +kernel)
set_option maxRecDepth 20000 in
theorem gX9_extreme_X9_isWhole : GoodIn wsX9_extreme (wsV RX9 84 RX9 yX9_isWhole wsX9_isWhole) := goodIn_app (goodIn_r _ [5, 6, 7, 8] rfl (by decide +kernel)) ggX9_extreme_X9_isWhole
theorem dX9_extreme_1 : decode cX9_extreme 1 = .ok (.invokevirtual 84, 3) := by decide +kernel
theorem dX9_extreme_4 : decode cX9_extreme 4 = .ok (.ifCond .ne 10, 3) := by decide +kernel
theorem dX9_extreme_14 : decode cX9_extreme 14 = .ok (.aload_n 0, 1) := by decide +kernel
set_option maxRecDepth 20000 in
theorem ggX9_extreme_X9_knownLayings : GoodIn wsX9_extreme wsX9_knownLayings := goodIn_r _ [54, 55, 56, 57, 58, 10, 59, 60, 61, 62, 63, 64, 65, 66, 67, 11, 12, 13, 8, 14, 15, 16, 17, 18, 19, 20, 21, 22, 23, 24, 25, 68, 69, 70, 71, 72, 73, 74, 75, 76, 77, 78, 79, 80, 36, 28, 37, 81, 82, 83, 161, 162, 163, 164, 165, 166, 167, 168, 169, 170, 171, 181, 182, 183, 184, 174, 175, 176, 177, 178, 179, 180] rfl (by decide +kernel)
set_option maxRecDepth 20000 in
theorem gX9_extreme_X9_knownLayings : GoodIn wsX9_extreme (wsV RX9 170 RX9 yX9_knownLayings wsX9_knownLayings) := goodIn_app (goodIn_r _ [51, 52, 53, 8] rfl (by decide +kernel)) ggX9_extreme_X9_knownLayings
theorem dX9_extreme_15 : decode cX9_extreme 15 = .ok (.invokevirtual 170, 3) := by decide +kernel
set_option maxRecDepth 20000 in
theorem ggX9_extreme_X4_total : GoodIn wsX9_extreme wsX4_total := goodIn_r _ [87, 66, 181, 182, 183, 184] rfl (by decide +kernel)
set_option maxRecDepth 20000 in
theorem gX9_extreme_X4_total : GoodIn wsX9_extreme (wsV RX9 174 RX4 yX4_total wsX4_total) := goodIn_app (goodIn_r _ [84, 85, 86, 58] rfl (by decide +kernel)) ggX9_extreme_X4_total
theorem dX9_extreme_18 : decode cX9_extreme 18 = .ok (.invokevirtual 174, 3) := by decide +kernel
theorem dX9_extreme_21 : decode cX9_extreme 21 = .ok (.ifCond .ne 10, 3) := by decide +kernel
theorem dX9_extreme_31 : decode cX9_extreme 31 = .ok (.aload_n 0, 1) := by decide +kernel
theorem dX9_extreme_32 : decode cX9_extreme 32 = .ok (.getfield 31, 3) := by decide +kernel
theorem dX9_extreme_35 : decode cX9_extreme 35 = .ok (.aload_n 0, 1) := by decide +kernel
theorem dX9_extreme_36 : decode cX9_extreme 36 = .ok (.iconst 0, 1) := by decide +kernel
set_option maxRecDepth 20000 in
theorem ggX9_extreme_X9_layingOf : GoodIn wsX9_extreme wsX9_layingOf := goodIn_r _ [91, 92, 93, 94, 51, 52, 53, 8, 54, 55, 56, 57, 58, 10, 59, 60, 61, 62, 63, 64, 65, 66, 67, 11, 12, 13, 14, 15, 16, 17, 18, 19, 20, 21, 22, 23, 24, 25, 68, 69, 70, 71, 72, 73, 74, 75, 76, 77, 78, 79, 80, 36, 28, 37, 81, 82, 83, 95, 96, 97, 98, 99, 100, 101, 102, 103, 104, 105, 106, 107, 108, 109, 110, 111, 112, 113, 114, 115, 116, 117, 118, 119, 120, 121, 122, 123, 124, 125, 185, 186, 187, 161, 162, 163, 164, 165, 166, 167, 168, 169, 170, 171, 181, 182, 183, 184, 174, 175, 176, 177, 178, 179, 180] rfl (by decide +kernel)
set_option maxRecDepth 20000 in
theorem gX9_extreme_X9_layingOf : GoodIn wsX9_extreme (wsV RX9 192 RX9 yX9_layingOf wsX9_layingOf) := goodIn_app (goodIn_r _ [88, 89, 90, 8] rfl (by decide +kernel)) ggX9_extreme_X9_layingOf
theorem dX9_extreme_37 : decode cX9_extreme 37 = .ok (.invokevirtual 192, 3) := by decide +kernel
theorem dX9_extreme_40 : decode cX9_extreme 40 = .ok (.lconst 0, 1) := by decide +kernel
set_option maxRecDepth 20000 in
theorem ggX9_extreme_X8_start : GoodIn wsX9_extreme wsX8_start := goodIn_r _ [130, 131, 132, 133, 134, 135, 185, 186, 187, 172, 173] rfl (by decide +kernel)
set_option maxRecDepth 20000 in
theorem gX9_extreme_X8_start : GoodIn wsX9_extreme (wsV RX9 204 RX8 yX8_start wsX8_start) := goodIn_app (goodIn_r _ [126, 127, 128, 129] rfl (by decide +kernel)) ggX9_extreme_X8_start
theorem dX9_extreme_41 : decode cX9_extreme 41 = .ok (.invokevirtual 204, 3) := by decide +kernel
theorem dX9_extreme_44 : decode cX9_extreme 44 = .ok (.aload_n 0, 1) := by decide +kernel
theorem dX9_extreme_45 : decode cX9_extreme 45 = .ok (.getfield 31, 3) := by decide +kernel
theorem dX9_extreme_48 : decode cX9_extreme 48 = .ok (.iload_n 1, 1) := by decide +kernel
set_option maxRecDepth 20000 in
theorem ggX9_extreme_X8_goOn : GoodIn wsX9_extreme wsX8_goOn := goodIn_r _ [139, 140, 141, 142, 129, 143, 144, 145, 146, 147, 148, 133, 135, 149, 150, 151, 152, 36, 28, 37, 153, 154, 155, 156, 172, 173] rfl (by decide +kernel)
set_option maxRecDepth 20000 in
theorem gX9_extreme_X8_goOn : GoodIn wsX9_extreme (wsV RX9 241 RX8 yX8_goOn wsX8_goOn) := goodIn_app (goodIn_r _ [136, 137, 138, 129] rfl (by decide +kernel)) ggX9_extreme_X8_goOn
theorem dX9_extreme_49 : decode cX9_extreme 49 = .ok (.invokevirtual 241, 3) := by decide +kernel
theorem dX9_extreme_52 : decode cX9_extreme 52 = .ok (.aload_n 0, 1) := by decide +kernel
theorem dX9_extreme_53 : decode cX9_extreme 53 = .ok (.invokevirtual 170, 3) := by decide +kernel
theorem dX9_extreme_56 : decode cX9_extreme 56 = .ok (.aload_n 0, 1) := by decide +kernel
theorem dX9_extreme_57 : decode cX9_extreme 57 = .ok (.getfield 31, 3) := by decide +kernel
theorem dX9_extreme_60 : decode cX9_extreme 60 = .ok (.getfield 221, 3) := by decide +kernel
set_option maxRecDepth 20000 in
theorem ggX9_extreme_X4_numberOf : GoodIn wsX9_extreme wsX4_numberOf := goodIn_r _ [160, 99, 100, 101, 58, 102, 73, 80, 36, 28, 37, 103, 104, 105, 106, 66, 77, 78, 79, 181, 182, 183, 184] rfl (by decide +kernel)
set_option maxRecDepth 20000 in
theorem gX9_extreme_X4_numberOf : GoodIn wsX9_extreme (wsV RX9 223 RX4 yX4_numberOf wsX4_numberOf) := goodIn_app (goodIn_r _ [157, 158, 159, 58] rfl (by decide +kernel)) ggX9_extreme_X4_numberOf
theorem dX9_extreme_63 : decode cX9_extreme 63 = .ok (.invokevirtual 223, 3) := by decide +kernel
theorem dX9_extreme_66 : decode cX9_extreme 66 = .ok (.ireturn, 1) := by decide +kernel
theorem dX9_extreme_24 : decode cX9_extreme 24 = .ok (.aload_n 0, 1) := by decide +kernel
theorem dX9_extreme_25 : decode cX9_extreme 25 = .ok (.ldc 137, 2) := by decide +kernel
set_option maxRecDepth 20000 in
theorem ggX9_extreme_X9_finding : GoodIn wsX9_extreme wsX9_finding := goodIn_r _ [49, 50, 161, 162, 163, 164, 165, 166, 167, 168, 169, 170, 171] rfl (by decide +kernel)
set_option maxRecDepth 20000 in
theorem gX9_extreme_X9_finding : GoodIn wsX9_extreme (wsV RX9 44 RX9 yX9_finding wsX9_finding) := goodIn_app (goodIn_r _ [46, 47, 48, 8] rfl (by decide +kernel)) ggX9_extreme_X9_finding
theorem dX9_extreme_27 : decode cX9_extreme 27 = .ok (.invokevirtual 44, 3) := by decide +kernel
theorem dX9_extreme_30 : decode cX9_extreme 30 = .ok (.ireturn, 1) := by decide +kernel
theorem dX9_extreme_7 : decode cX9_extreme 7 = .ok (.aload_n 0, 1) := by decide +kernel
theorem dX9_extreme_8 : decode cX9_extreme 8 = .ok (.ldc 128, 2) := by decide +kernel
theorem dX9_extreme_10 : decode cX9_extreme 10 = .ok (.invokevirtual 44, 3) := by decide +kernel
theorem dX9_extreme_13 : decode cX9_extreme 13 = .ok (.ireturn, 1) := by decide +kernel
set_option maxRecDepth 20000 in
theorem ihX9_extreme_8 : ∀ w ∈ u_ws RX8 TX8 2, w ∈ wsX9_extreme := fun _ h => List.mem_cons_of_mem _ (List.mem_append_left _ (List.mem_append_left _ (List.mem_append_left _ (List.mem_append_right _ h))))
set_option maxRecDepth 20000 in
theorem ihX9_extreme_9 : ∀ w ∈ u_ws RX9 TX9 11, w ∈ wsX9_extreme := fun _ h => List.mem_cons_of_mem _ (List.mem_append_left _ (List.mem_append_left _ (List.mem_append_left _ (List.mem_append_left _ (List.mem_append_right _ h)))))
set_option maxHeartbeats 4000000 in
set_option maxRecDepth 100000 in
theorem t_X9_extreme (l : Launch) (D : va_G) (cy : Nat → ClassId) (a : Nat → Nat) (sz : Nat) (J : Nat → Int64) (I : Nat → Int32) (O : Nat → Option Nat) (R : Nat → Nat → Int32) (RO : Nat → Nat → Option Nat) (LL : va_W) (Y : va_W) (x0 : Bool) (hM : CI a Y I O RO) (hL : LOK cy (O 5) LL) : Met l yX9_extreme wsX9_extreme ({ frames := 6, cells := 10, slots := 51471, locals := 145 }) (va_Pc [.ref (a 0), .int (bI x0)] (PW D cy sz (CT cy a J I O R RO (LL ++ Y)))) (va_Qi (fun r (u : TS) => ∃ (w0 : Int64), ∃ (w1 : Int64), ∃ (w2 : Int32), ∃ (w3 : Option Nat), ∃ (LL9 : va_W), ∃ (Y9 : va_W), ((∀ c, c ∈ Y → c ∈ Y9) ∧ LOK cy w3 LL9) ∧ u = ((va_up (va_up J 224 w0) 225 w1), (va_up I 10 w2), (va_up O 5 w3), R, RO, LL9, Y9)) (BW D (va_A (CT cy a J I O R RO (LL ++ Y)) sz) (CTu cy a)) (va_A (CT cy a J I O R RO (LL ++ Y)) sz)) 10 51471 (va_A (CT cy a J I O R RO (LL ++ Y)) sz) := by
  refine Met.ofW (cc := cX9_extreme) (maxL := 2) (ret := (some .int)) (by decide) rfl ?_
  intro p e s m args below meth c s₁ B hml hv
  obtain ⟨rfl, rfl, hP, hK, hN, hD0⟩ := hv
  have hx := B.exec
  have hb := B.bytes
  have hr := B.returns
  have hts := atoms_spec (ws := wsX9_extreme) B.pre
  have hown : s.vm.findClass RX9 = some m.cls := findClass_of_methodNamed B.named
  have hlocks := B.notSynchronized
  have hw0 := hts (.fieldLink RX9 31 "ParquetLayer" "turner" "LParquetLayer$Turner;") (by decide +kernel)
  have hw1 := hts (.fieldLink RX9 221 "ParquetLayer$Turner" "across" "J") (by decide +kernel)
  have hw2 := hts (.constant RX9 137 (-100006)) (by decide +kernel)
  have hw3 := hts (.constant RX9 128 (-100004)) (by decide +kernel)
  have hi8 := ihX9_extreme_8
  have hi9 := ihX9_extreme_9
  have hD := hD0.self (sz := s.heap.size)
  generalize hAe : va_A (CT cy a J I O R RO (LL ++ Y)) s.heap.size = A at hD ⊢
  have hA : ∀ q : Nat, s.heap.size ≤ q → A q := fun q h => by rw [← hAe]; exact Or.inr h
  have hS : va_S A s.heap s.heap [] := va_S.rf
  have hl := lv_entry ([.ref (a 0), .int (bI x0)]) (n := 2) (Nat.le_of_ble_eq_true rfl)
  rw [lg_entry_eq]
  generalize (lg_sl ([.ref (a 0), .int (bI x0)]) ++ List.replicate (2 - (lg_sl ([.ref (a 0), .int (bI x0)])).length) Slot.unset).toArray = ls at hl ⊢
  have hl : lv_has ls 2 [(0, .ref (a 0)), (1, .int (bI x0))] := hl
  have hRO0 := hM.2.2.2.2.2.2.2.2.1
  have hRO1 := hM.2.2.2.2.2.2.2.2.2.1
  have hRO2 := hM.2.2.2.2.2.2.2.2.2.2.1
  have hRO3 := hM.2.2.2.2.2.2.2.2.2.2.2
  have hP : va_P D vwCl (CT cy a (va_up (va_up J 224 (J 224)) 225 (J 225)) (va_up I 10 (I 10)) (va_up O 5 (O 5)) R RO (LL ++ Y)) s.heap := hP
  have hD : va_D A (CT cy a (va_up (va_up J 224 (J 224)) 225 (J 225)) (va_up I 10 (I 10)) (va_up O 5 (O 5)) R RO (LL ++ Y)) := hD
  refine lv_aload_n hx hb dX9_extreme_0 rfl (lv_at hl 0 rfl) ?_
  refine kRa_i (As := []) (rest := []) (q0 := 0) ⟨hx, hb, hml, hown, hts⟩ (t_X9_isWhole l D cy a _ (va_up (va_up J 224 (J 224)) 225 (J 225)) (va_up I 10 (I 10)) (va_up O 5 (O 5)) R RO LL Y   ⟨hM.1, hM.2.1, hM.2.2.1, hM.2.2.2.1, hM.2.2.2.2.1, hM.2.2.2.2.2.1, hM.2.2.2.2.2.2.1, hM.2.2.2.2.2.2.2.1, hRO0, hRO1, hRO2, hRO3⟩) (cwV 0 hts gX9_extreme_X9_isWhole rfl rfl rfl (by decide +kernel) ⟨Nat.le_of_ble_eq_true rfl, Nat.le_of_ble_eq_true rfl⟩) hK hN hP hD rfl rfl rfl hl.1 rfl (Nat.le_of_ble_eq_true rfl) dX9_extreme_1 ⟨Nat.le_of_ble_eq_true rfl, Nat.le_of_ble_eq_true rfl⟩ (fun r_1 hr_2 => ?_)
  obtain ⟨zb_3, rfl⟩ := hr_2
  refine lv_if_ne (tgt := 14) hx hb dX9_extreme_4 (by decide) (fun c_4 => ?_) (fun c_4 => ?_)
  · replace c_4 := bI_t c_4
    refine lv_aload_n hx hb dX9_extreme_14 rfl (lv_at hl 0 rfl) ?_
    refine kM_r (As := []) (rest := []) (q0 := 0) ⟨hx, hb, hml, hown, hts⟩ (t_X9_knownLayings l D cy a _ (va_up (va_up J 224 (J 224)) 225 (J 225)) (va_up I 10 (I 10)) (va_up O 5 (O 5)) R RO LL Y   ⟨hM.1, hM.2.1, hM.2.2.1, hM.2.2.2.1, hM.2.2.2.2.1, hM.2.2.2.2.2.1, hM.2.2.2.2.2.2.1, hM.2.2.2.2.2.2.2.1, hRO0, hRO1, hRO2, hRO3⟩ hL) (cwV 0 hts gX9_extreme_X9_knownLayings rfl rfl rfl (by decide +kernel) ⟨Nat.le_of_ble_eq_true rfl, Nat.le_of_ble_eq_true rfl⟩) hK hN hP hD hS hA rfl rfl rfl hl.1 rfl (Nat.le_of_ble_eq_true rfl) dX9_extreme_15 ⟨Nat.le_of_ble_eq_true rfl, Nat.le_of_ble_eq_true rfl⟩ (fun u r_5 H locs hw hP hD hS => ?_)
    obtain ⟨g_6, g_7, g_8, g_9, g_10, g_11⟩ := u
    have hkn_12 : isB g_9 := hw.1
    have htb_13 : g_9 = 1 → tabF (bfx g_8) g_10 0 := hw.2
    have hP : va_P D vwCl (CT cy a (va_up (va_up J 224 (J 224)) 225 (J 225)) (va_up I 10 (I 10)) (va_up O 5 (some r_5)) R RO ([(r_5, .inr (3, [.ref g_6, .ref g_7, .long g_8, .int g_9])), (g_6, .inl (cy 0, 16640, .inl g_10)), (g_7, .inl (cy 0, 512, .inl g_11))] ++ Y)) H := hP
    have hD : va_D A (CT cy a (va_up (va_up J 224 (J 224)) 225 (J 225)) (va_up I 10 (I 10)) (va_up O 5 (some r_5)) R RO ([(r_5, .inr (3, [.ref g_6, .ref g_7, .long g_8, .int g_9])), (g_6, .inl (cy 0, 16640, .inl g_10)), (g_7, .inl (cy 0, 512, .inl g_11))] ++ Y)) := hD
    refine kR_i (As := []) (rest := []) (q0 := 20) ⟨hx, hb, hml, hown, hts⟩ (t_X4_total l D cy a _ (va_up (va_up J 224 (J 224)) 225 (J 225)) (va_up I 10 (I 10)) (va_up O 5 (some r_5)) R RO r_5 g_6 g_7 g_8 g_9 g_10 g_11 hkn_12 Y   ) (cwV 0 hts gX9_extreme_X4_total rfl rfl rfl (by decide +kernel) ⟨Nat.le_of_ble_eq_true rfl, Nat.le_of_ble_eq_true rfl⟩) hK hN hP hD rfl rfl rfl hl.1 rfl (Nat.le_of_ble_eq_true rfl) dX9_extreme_18 ⟨Nat.le_of_ble_eq_true rfl, Nat.le_of_ble_eq_true rfl⟩ ?_
    refine lv_if_ne (tgt := 31) hx hb dX9_extreme_21 (by decide) (fun c_14 => ?_) (fun c_14 => ?_)
    · refine lv_aload_n hx hb dX9_extreme_31 rfl (lv_at hl 0 rfl) ?_
      refine va_get (D := D) (ci := 8) (v := .ref (a 7)) (C := RX9) (T := TX9) (N := 11) hx hb hts hi9 hown hK hP 0 rfl rfl 3 (by decide) hw0 (fun _ h9 => h9) rfl dX9_extreme_32 ?_
      refine lv_aload_n hx hb dX9_extreme_35 rfl (lv_at hl 0 rfl) ?_
      refine lv_iconst (v := 0) hx hb dX9_extreme_36 (by decide) ?_
      refine kM_r (As := [.int 0]) (rest := [.ref (a 7)]) (q0 := 0) ⟨hx, hb, hml, hown, hts⟩ (t_X9_layingOf l D cy a _ (va_up (va_up J 224 (J 224)) 225 (J 225)) (va_up I 10 (I 10)) (va_up O 5 (some r_5)) R RO ([(r_5, .inr (3, [.ref g_6, .ref g_7, .long g_8, .int g_9])), (g_6, .inl (cy 0, 16640, .inl g_10)), (g_7, .inl (cy 0, 512, .inl g_11))]) Y (0 : Int32)  ⟨hM.1, hM.2.1, hM.2.2.1, hM.2.2.2.1, hM.2.2.2.2.1, hM.2.2.2.2.2.1, hM.2.2.2.2.2.2.1, hM.2.2.2.2.2.2.2.1, hRO0, hRO1, hRO2, hRO3⟩ (Or.inr ⟨_, _, _, _, _, _, _, rfl, hkn_12, htb_13, rfl⟩)) (cwV 1 hts gX9_extreme_X9_layingOf rfl rfl rfl (by decide +kernel) ⟨Nat.le_of_ble_eq_true rfl, Nat.le_of_ble_eq_true rfl⟩) hK hN hP hD hS hA rfl rfl rfl hl.1 rfl (Nat.le_of_ble_eq_true rfl) dX9_extreme_37 ⟨Nat.le_of_ble_eq_true rfl, Nat.le_of_ble_eq_true rfl⟩ (fun u r_15 H locs hw hP hD hS => ?_)
      obtain ⟨g_16, g_17, g_18, g_19⟩ := u
      have hL_20 : LOK cy g_16 g_17 := hw
      have hs_21 : ∀ c, c ∈ Y → c ∈ (Y ++ [laC r_15 (0 : Int32) g_18 g_19]) := fun c h => List.mem_append_left _ h
      have hi_22 : chO (Y ++ [laC r_15 (0 : Int32) g_18 g_19]) (O 7) := chO_mono hs_21 hM.2.1
      have hi_23 : layO (Y ++ [laC r_15 (0 : Int32) g_18 g_19]) (O 8) := layO_mono hs_21 hM.2.2.1
      have hi_24 : ∀ i, i < 20 → pasO (Y ++ [laC r_15 (0 : Int32) g_18 g_19]) ((RO 2) i) := pas_mono hs_21 hM.2.2.2.1
      have hmono_25 : ∀ c, c ∈ Y → c ∈ (Y ++ [laC r_15 (0 : Int32) g_18 g_19]) := fun c h => hs_21 c ((fun _ h => h) c h)
      have hP : va_P D vwCl (CT cy a (va_up (va_up J 224 (J 224)) 225 (J 225)) (va_up I 10 (I 10)) (va_up O 5 g_16) R RO (g_17 ++ (Y ++ [laC r_15 (0 : Int32) g_18 g_19]))) H := hP
      have hD : va_D A (CT cy a (va_up (va_up J 224 (J 224)) 225 (J 225)) (va_up I 10 (I 10)) (va_up O 5 g_16) R RO (g_17 ++ (Y ++ [laC r_15 (0 : Int32) g_18 g_19]))) := hD
      refine lv_lconst (v := 0) hx hb dX9_extreme_40 (by decide) ?_
      refine kM_v (As := [.ref r_15, .long 0]) (rest := []) (q0 := 7) ⟨hx, hb, hml, hown, hts⟩ (t_X8_start l D cy a _ (va_up (va_up J 224 (J 224)) 225 (J 225)) (va_up I 10 (I 10)) (va_up O 5 g_16) R RO g_17 (Y ++ [laC r_15 (0 : Int32) g_18 g_19]) r_15 (0 : Int32) g_18 g_19 mem_last (0 : Int64)   ) (cwV 2 hts gX9_extreme_X8_start rfl rfl rfl (by decide +kernel) ⟨Nat.le_of_ble_eq_true rfl, Nat.le_of_ble_eq_true rfl⟩) hK hN hP hD hS hA rfl rfl rfl hl.1 rfl (Nat.le_of_ble_eq_true rfl) dX9_extreme_41 ⟨Nat.le_of_ble_eq_true rfl, Nat.le_of_ble_eq_true rfl⟩ (fun u H locs hw hP hD hS => ?_)
      obtain ⟨w_27, w_28, -, rfl⟩ := hw
      have hP : va_P D vwCl (CT cy a (va_up (va_up J 224 w_27) 225 w_28) (va_up I 10 (I 10)) (va_up O 5 g_16) R RO (g_17 ++ (Y ++ [laC r_15 (0 : Int32) g_18 g_19]))) H := hP
      have hD : va_D A (CT cy a (va_up (va_up J 224 w_27) 225 w_28) (va_up I 10 (I 10)) (va_up O 5 g_16) R RO (g_17 ++ (Y ++ [laC r_15 (0 : Int32) g_18 g_19]))) := hD
      refine lv_aload_n hx hb dX9_extreme_44 rfl (lv_at hl 0 rfl) ?_
      refine va_get (D := D) (ci := 8) (v := .ref (a 7)) (C := RX9) (T := TX9) (N := 11) hx hb hts hi9 hown hK hP 0 rfl rfl 3 (by decide) hw0 (fun _ h9 => h9) rfl dX9_extreme_45 ?_
      refine lv_iload_n hx hb dX9_extreme_48 rfl (lv_at hl 1 rfl) ?_
      refine kM_v (As := [.int (bI x0)]) (rest := []) (q0 := 7) ⟨hx, hb, hml, hown, hts⟩ (t_X8_goOn l D cy a _ (va_up (va_up J 224 w_27) 225 w_28) (va_up I 10 (I 10)) (va_up O 5 g_16) R RO g_17 (Y ++ [laC r_15 (0 : Int32) g_18 g_19]) x0   ) (cwV 1 hts gX9_extreme_X8_goOn rfl rfl rfl (by decide +kernel) ⟨Nat.le_of_ble_eq_true rfl, Nat.le_of_ble_eq_true rfl⟩) hK hN hP hD hS hA rfl rfl rfl hl.1 rfl (Nat.le_of_ble_eq_true rfl) dX9_extreme_49 ⟨Nat.le_of_ble_eq_true rfl, Nat.le_of_ble_eq_true rfl⟩ (fun u H locs hw hP hD hS => ?_)
      obtain ⟨w_30, w_31, -, rfl⟩ := hw
      have hP : va_P D vwCl (CT cy a (va_up (va_up J 224 w_30) 225 w_31) (va_up I 10 (I 10)) (va_up O 5 g_16) R RO (g_17 ++ (Y ++ [laC r_15 (0 : Int32) g_18 g_19]))) H := hP
      have hD : va_D A (CT cy a (va_up (va_up J 224 w_30) 225 w_31) (va_up I 10 (I 10)) (va_up O 5 g_16) R RO (g_17 ++ (Y ++ [laC r_15 (0 : Int32) g_18 g_19]))) := hD
      refine lv_aload_n hx hb dX9_extreme_52 rfl (lv_at hl 0 rfl) ?_
      refine kM_r (As := []) (rest := []) (q0 := 0) ⟨hx, hb, hml, hown, hts⟩ (t_X9_knownLayings l D cy a _ (va_up (va_up J 224 w_30) 225 w_31) (va_up I 10 (I 10)) (va_up O 5 g_16) R RO g_17 (Y ++ [laC r_15 (0 : Int32) g_18 g_19])   ⟨hM.1, hi_22, hi_23, hi_24, hM.2.2.2.2.1, hM.2.2.2.2.2.1, hM.2.2.2.2.2.2.1, hM.2.2.2.2.2.2.2.1, hRO0, hRO1, hRO2, hRO3⟩ hL_20) (cwV 0 hts gX9_extreme_X9_knownLayings rfl rfl rfl (by decide +kernel) ⟨Nat.le_of_ble_eq_true rfl, Nat.le_of_ble_eq_true rfl⟩) hK hN hP hD hS hA rfl rfl rfl hl.1 rfl (Nat.le_of_ble_eq_true rfl) dX9_extreme_53 ⟨Nat.le_of_ble_eq_true rfl, Nat.le_of_ble_eq_true rfl⟩ (fun u r_32 H locs hw hP hD hS => ?_)
      obtain ⟨g_33, g_34, g_35, g_36, g_37, g_38⟩ := u
      have hkn_39 : isB g_36 := hw.1
      have htb_40 : g_36 = 1 → tabF (bfx g_35) g_37 0 := hw.2
      have hP : va_P D vwCl (CT cy a (va_up (va_up J 224 w_30) 225 w_31) (va_up I 10 (I 10)) (va_up O 5 (some r_32)) R RO ([(r_32, .inr (3, [.ref g_33, .ref g_34, .long g_35, .int g_36])), (g_33, .inl (cy 0, 16640, .inl g_37)), (g_34, .inl (cy 0, 512, .inl g_38))] ++ (Y ++ [laC r_15 (0 : Int32) g_18 g_19]))) H := hP
      have hD : va_D A (CT cy a (va_up (va_up J 224 w_30) 225 w_31) (va_up I 10 (I 10)) (va_up O 5 (some r_32)) R RO ([(r_32, .inr (3, [.ref g_33, .ref g_34, .long g_35, .int g_36])), (g_33, .inl (cy 0, 16640, .inl g_37)), (g_34, .inl (cy 0, 512, .inl g_38))] ++ (Y ++ [laC r_15 (0 : Int32) g_18 g_19]))) := hD
      refine lv_aload_n hx hb dX9_extreme_56 rfl (lv_at hl 0 rfl) ?_
      refine va_get (D := D) (ci := 8) (v := .ref (a 7)) (C := RX9) (T := TX9) (N := 11) hx hb hts hi9 hown hK hP 0 rfl rfl 3 (by decide) hw0 (fun _ h9 => h9) rfl dX9_extreme_57 ?_
      refine va_get (D := D) (ci := 7) (v := .long w_31) (C := RX8) (T := TX8) (N := 2) hx hb hts hi8 hown hK hP 7 rfl rfl 1 (by decide) hw1 (fun _ h9 => h9) rfl dX9_extreme_60 ?_
      refine kRa_i (As := [.long w_31]) (rest := []) (q0 := 20) ⟨hx, hb, hml, hown, hts⟩ (t_X4_numberOf l D cy a _ (va_up (va_up J 224 w_30) 225 w_31) (va_up I 10 (I 10)) (va_up O 5 (some r_32)) R RO r_32 g_33 g_34 g_35 g_36 g_37 g_38 hkn_39 (Y ++ [laC r_15 (0 : Int32) g_18 g_19]) w_31  ) (cwV 1 hts gX9_extreme_X4_numberOf rfl rfl rfl (by decide +kernel) ⟨Nat.le_of_ble_eq_true rfl, Nat.le_of_ble_eq_true rfl⟩) hK hN hP hD rfl rfl rfl hl.1 rfl (Nat.le_of_ble_eq_true rfl) dX9_extreme_63 ⟨Nat.le_of_ble_eq_true rfl, Nat.le_of_ble_eq_true rfl⟩ (fun r_41 hr_42 => ?_)
      exact wret_i hx hb hr hlocks ((va_up (va_up J 224 w_30) 225 w_31), (va_up I 10 (I 10)), (va_up O 5 (some r_32)), R, RO, [(r_32, .inr (3, [.ref g_33, .ref g_34, .long g_35, .int g_36])), (g_33, .inl (cy 0, 16640, .inl g_37)), (g_34, .inl (cy 0, 512, .inl g_38))], Y ++ [laC r_15 (0 : Int32) g_18 g_19]) ⟨w_30, w_31, (I 10), (some r_32), ([(r_32, .inr (3, [.ref g_33, .ref g_34, .long g_35, .int g_36])), (g_33, .inl (cy 0, 16640, .inl g_37)), (g_34, .inl (cy 0, 512, .inl g_38))]), (Y ++ [laC r_15 (0 : Int32) g_18 g_19]), ⟨hmono_25, (Or.inr ⟨_, _, _, _, _, _, _, rfl, hkn_39, htb_40, rfl⟩)⟩, rfl⟩ hP hD hS dX9_extreme_66
    · refine lv_aload_n hx hb dX9_extreme_24 rfl (lv_at hl 0 rfl) ?_
      refine lv_ldc (v := (-100006)) hx hb hown hw2 dX9_extreme_25 ?_
      refine kM_i (As := [.int (-100006)]) (rest := []) (q0 := 0) ⟨hx, hb, hml, hown, hts⟩ (t_X9_finding l D cy a _ (va_up (va_up J 224 (J 224)) 225 (J 225)) (va_up I 10 (I 10)) (va_up O 5 (some r_5)) R RO ([(r_5, .inr (3, [.ref g_6, .ref g_7, .long g_8, .int g_9])), (g_6, .inl (cy 0, 16640, .inl g_10)), (g_7, .inl (cy 0, 512, .inl g_11))]) Y ((-100006) : Int32)   ) (cwV 1 hts gX9_extreme_X9_finding rfl rfl rfl (by decide +kernel) ⟨Nat.le_of_ble_eq_true rfl, Nat.le_of_ble_eq_true rfl⟩) hK hN hP hD hS hA rfl rfl rfl hl.1 rfl (Nat.le_of_ble_eq_true rfl) dX9_extreme_27 ⟨Nat.le_of_ble_eq_true rfl, Nat.le_of_ble_eq_true rfl⟩ (fun r_43 u H locs hw hP hD hS => ?_)
      obtain ⟨w_44, rfl, rfl⟩ := hw
      have hP : va_P D vwCl (CT cy a (va_up (va_up J 224 (J 224)) 225 (J 225)) (va_up I 10 w_44) (va_up O 5 (some r_5)) R RO ([(r_5, .inr (3, [.ref g_6, .ref g_7, .long g_8, .int g_9])), (g_6, .inl (cy 0, 16640, .inl g_10)), (g_7, .inl (cy 0, 512, .inl g_11))] ++ Y)) H := hP
      have hD : va_D A (CT cy a (va_up (va_up J 224 (J 224)) 225 (J 225)) (va_up I 10 w_44) (va_up O 5 (some r_5)) R RO ([(r_5, .inr (3, [.ref g_6, .ref g_7, .long g_8, .int g_9])), (g_6, .inl (cy 0, 16640, .inl g_10)), (g_7, .inl (cy 0, 512, .inl g_11))] ++ Y)) := hD
      refine W.widen (k := 10) (n := 51471) (Nat.le_of_ble_eq_true rfl) (Nat.le_of_ble_eq_true rfl) ?_
      exact wret_i hx hb hr hlocks ((va_up (va_up J 224 (J 224)) 225 (J 225)), (va_up I 10 w_44), (va_up O 5 (some r_5)), R, RO, [(r_5, .inr (3, [.ref g_6, .ref g_7, .long g_8, .int g_9])), (g_6, .inl (cy 0, 16640, .inl g_10)), (g_7, .inl (cy 0, 512, .inl g_11))], Y) ⟨(J 224), (J 225), w_44, (some r_5), ([(r_5, .inr (3, [.ref g_6, .ref g_7, .long g_8, .int g_9])), (g_6, .inl (cy 0, 16640, .inl g_10)), (g_7, .inl (cy 0, 512, .inl g_11))]), Y, ⟨(fun _ h => h), (Or.inr ⟨_, _, _, _, _, _, _, rfl, hkn_12, htb_13, rfl⟩)⟩, rfl⟩ hP hD hS dX9_extreme_30
  · replace c_4 := bI_f c_4
    refine lv_aload_n hx hb dX9_extreme_7 rfl (lv_at hl 0 rfl) ?_
    refine lv_ldc (v := (-100004)) hx hb hown hw3 dX9_extreme_8 ?_
    refine kM_i (As := [.int (-100004)]) (rest := []) (q0 := 0) ⟨hx, hb, hml, hown, hts⟩ (t_X9_finding l D cy a _ (va_up (va_up J 224 (J 224)) 225 (J 225)) (va_up I 10 (I 10)) (va_up O 5 (O 5)) R RO LL Y ((-100004) : Int32)   ) (cwV 1 hts gX9_extreme_X9_finding rfl rfl rfl (by decide +kernel) ⟨Nat.le_of_ble_eq_true rfl, Nat.le_of_ble_eq_true rfl⟩) hK hN hP hD hS hA rfl rfl rfl hl.1 rfl (Nat.le_of_ble_eq_true rfl) dX9_extreme_10 ⟨Nat.le_of_ble_eq_true rfl, Nat.le_of_ble_eq_true rfl⟩ (fun r_45 u H locs hw hP hD hS => ?_)
    obtain ⟨w_46, rfl, rfl⟩ := hw
    have hP : va_P D vwCl (CT cy a (va_up (va_up J 224 (J 224)) 225 (J 225)) (va_up I 10 w_46) (va_up O 5 (O 5)) R RO (LL ++ Y)) H := hP
    have hD : va_D A (CT cy a (va_up (va_up J 224 (J 224)) 225 (J 225)) (va_up I 10 w_46) (va_up O 5 (O 5)) R RO (LL ++ Y)) := hD
    refine W.widen (k := 10) (n := 51471) (Nat.le_of_ble_eq_true rfl) (Nat.le_of_ble_eq_true rfl) ?_
    exact wret_i hx hb hr hlocks ((va_up (va_up J 224 (J 224)) 225 (J 225)), (va_up I 10 w_46), (va_up O 5 (O 5)), R, RO, LL, Y) ⟨(J 224), (J 225), w_46, (O 5), LL, Y, ⟨(fun _ h => h), hL⟩, rfl⟩ hP hD hS dX9_extreme_13
theorem dX9_apart_0 : decode cX9_apart 0 = .ok (.aload_n 0, 1) := by decide +kernel
set_option maxRecDepth 20000 in
theorem ggX9_apart_X9_isWhole : GoodIn wsX9_apart wsX9_isWhole := goodIn_r _ [8, 9, 10, 11, 12, 7, 13, 14, 15, 16, 17, 18, 19, 20, 21, 22, 23, 24, 25, 26, 27, 28, 29, 30, 31, 32, 33, 34, 35, 36, 37, 38, 39, 40, 41, 42, 43, 44, 182, 183, 184, 185, 186, 187, 188, 189, 190, 191, 192, 193, 194, 195, 196, 197, 198, 199] rfl (by decide +kernel)
set_option maxRecDepth 20000 in
theorem gX9_apart_X9_isWhole : GoodIn wsX9_apart (wsV RX9 84 RX9 yX9_isWhole wsX9_isWhole) := goodIn_app (goodIn_r _ [4, 5, 6, 7] rfl (by decide +kernel)) ggX9_apart_X9_isWhole
theorem dX9_apart_1 : decode cX9_apart 1 = .ok (.invokevirtual 84, 3) := by decide +kernel
theorem dX9_apart_4 : decode cX9_apart 4 = .ok (.ifCond .ne 10, 3) := by decide +kernel
theorem dX9_apart_14 : decode cX9_apart 14 = .ok (.aload_n 0, 1) := by decide +kernel
theorem dX9_apart_15 : decode cX9_apart 15 = .ok (.iload_n 1, 1) := by decide +kernel
set_option maxRecDepth 20000 in
theorem ggX9_apart_X9_isLaying : GoodIn wsX9_apart wsX9_isLaying := goodIn_r _ [53, 54, 55, 56, 7, 57, 58, 59, 60, 61, 9, 62, 63, 64, 65, 66, 67, 68, 69, 70, 10, 11, 12, 13, 14, 15, 16, 17, 18, 19, 20, 21, 22, 23, 24, 71, 72, 73, 74, 75, 76, 77, 78, 79, 80, 81, 82, 83, 35, 27, 36, 84, 85, 86, 87, 88, 89, 90, 182, 183, 184, 185, 186, 187, 188, 189, 190, 191, 192, 200, 201, 202, 203, 193, 194, 195, 196, 197, 198, 199] rfl (by decide +kernel)
set_option maxRecDepth 20000 in
theorem gX9_apart_X9_isLaying : GoodIn wsX9_apart (wsV RX9 189 RX9 yX9_isLaying wsX9_isLaying) := goodIn_app (goodIn_r _ [50, 51, 52, 7] rfl (by decide +kernel)) ggX9_apart_X9_isLaying
theorem dX9_apart_16 : decode cX9_apart 16 = .ok (.invokevirtual 189, 3) := by decide +kernel
theorem dX9_apart_19 : decode cX9_apart 19 = .ok (.ifCond .eq 11, 3) := by decide +kernel
theorem dX9_apart_30 : decode cX9_apart 30 = .ok (.aload_n 0, 1) := by decide +kernel
theorem dX9_apart_31 : decode cX9_apart 31 = .ok (.ldc 43, 2) := by decide +kernel
set_option maxRecDepth 20000 in
theorem ggX9_apart_X9_finding : GoodIn wsX9_apart wsX9_finding := goodIn_r _ [48, 49, 182, 183, 184, 185, 186, 187, 188, 189, 190, 191, 192] rfl (by decide +kernel)
set_option maxRecDepth 20000 in
theorem gX9_apart_X9_finding : GoodIn wsX9_apart (wsV RX9 44 RX9 yX9_finding wsX9_finding) := goodIn_app (goodIn_r _ [45, 46, 47, 7] rfl (by decide +kernel)) ggX9_apart_X9_finding
theorem dX9_apart_33 : decode cX9_apart 33 = .ok (.invokevirtual 44, 3) := by decide +kernel
theorem dX9_apart_36 : decode cX9_apart 36 = .ok (.ireturn, 1) := by decide +kernel
theorem dX9_apart_22 : decode cX9_apart 22 = .ok (.aload_n 0, 1) := by decide +kernel
theorem dX9_apart_23 : decode cX9_apart 23 = .ok (.iload_n 2, 1) := by decide +kernel
theorem dX9_apart_24 : decode cX9_apart 24 = .ok (.invokevirtual 189, 3) := by decide +kernel
theorem dX9_apart_27 : decode cX9_apart 27 = .ok (.ifCond .ne 10, 3) := by decide +kernel
theorem dX9_apart_37 : decode cX9_apart 37 = .ok (.aload_n 0, 1) := by decide +kernel
theorem dX9_apart_38 : decode cX9_apart 38 = .ok (.aload_n 0, 1) := by decide +kernel
theorem dX9_apart_39 : decode cX9_apart 39 = .ok (.iload_n 1, 1) := by decide +kernel
set_option maxRecDepth 20000 in
theorem ggX9_apart_X9_layingOf : GoodIn wsX9_apart wsX9_layingOf := goodIn_r _ [94, 95, 96, 97, 54, 55, 56, 7, 57, 58, 59, 60, 61, 9, 62, 63, 64, 65, 66, 67, 68, 69, 70, 10, 11, 12, 13, 14, 15, 16, 17, 18, 19, 20, 21, 22, 23, 24, 71, 72, 73, 74, 75, 76, 77, 78, 79, 80, 81, 82, 83, 35, 27, 36, 84, 85, 86, 98, 99, 100, 101, 102, 103, 104, 105, 106, 107, 108, 109, 110, 111, 112, 113, 114, 115, 116, 117, 118, 119, 120, 121, 122, 123, 124, 125, 126, 127, 128, 204, 205, 206, 182, 183, 184, 185, 186, 187, 188, 189, 190, 191, 192, 200, 201, 202, 203, 193, 194, 195, 196, 197, 198, 199] rfl (by decide +kernel)
set_option maxRecDepth 20000 in
theorem gX9_apart_X9_layingOf : GoodIn wsX9_apart (wsV RX9 192 RX9 yX9_layingOf wsX9_layingOf) := goodIn_app (goodIn_r _ [91, 92, 93, 7] rfl (by decide +kernel)) ggX9_apart_X9_layingOf
theorem dX9_apart_40 : decode cX9_apart 40 = .ok (.invokevirtual 192, 3) := by decide +kernel
theorem dX9_apart_43 : decode cX9_apart 43 = .ok (.aload_n 0, 1) := by decide +kernel
theorem dX9_apart_44 : decode cX9_apart 44 = .ok (.iload_n 2, 1) := by decide +kernel
theorem dX9_apart_45 : decode cX9_apart 45 = .ok (.invokevirtual 192, 3) := by decide +kernel
set_option maxRecDepth 20000 in
theorem ggX9_apart_X9_measureBoth : GoodIn wsX9_apart wsX9_measureBoth := goodIn_r _ [132, 3, 9, 133, 134, 135, 136, 137, 138, 139, 140, 141, 142, 143, 144, 145, 146, 147, 148, 149, 150, 35, 27, 36, 151, 152, 153, 154, 155, 156, 157, 158, 159, 160, 161, 162, 163, 164, 34, 165, 166, 167, 168, 169, 170, 171, 182, 183, 184, 185, 186, 187, 188, 189, 190, 191, 192, 207, 208, 209, 210, 211, 204, 205, 206] rfl (by decide +kernel)
set_option maxRecDepth 20000 in
theorem gX9_apart_X9_measureBoth : GoodIn wsX9_apart (wsV RX9 245 RX9 yX9_measureBoth wsX9_measureBoth) := goodIn_app (goodIn_r _ [129, 130, 131, 7] rfl (by decide +kernel)) ggX9_apart_X9_measureBoth
theorem dX9_apart_48 : decode cX9_apart 48 = .ok (.invokevirtual 245, 3) := by decide +kernel
theorem dX9_apart_51 : decode cX9_apart 51 = .ok (.aload_n 0, 1) := by decide +kernel
theorem dX9_apart_52 : decode cX9_apart 52 = .ok (.getfield 24, 3) := by decide +kernel
set_option maxRecDepth 20000 in
theorem ggX9_apart_X2_distance : GoodIn wsX9_apart wsX2_distance := goodIn_r _ [175, 176, 177, 178, 179, 180, 181, 207, 208, 209, 210, 211] rfl (by decide +kernel)
set_option maxRecDepth 20000 in
theorem gX9_apart_X2_distance : GoodIn wsX9_apart (wsV RX9 249 RX2 yX2_distance wsX2_distance) := goodIn_app (goodIn_r _ [172, 173, 174, 138] rfl (by decide +kernel)) ggX9_apart_X2_distance
theorem dX9_apart_55 : decode cX9_apart 55 = .ok (.invokevirtual 249, 3) := by decide +kernel
theorem dX9_apart_58 : decode cX9_apart 58 = .ok (.ireturn, 1) := by decide +kernel
theorem dX9_apart_7 : decode cX9_apart 7 = .ok (.aload_n 0, 1) := by decide +kernel
theorem dX9_apart_8 : decode cX9_apart 8 = .ok (.ldc 128, 2) := by decide +kernel
theorem dX9_apart_10 : decode cX9_apart 10 = .ok (.invokevirtual 44, 3) := by decide +kernel
theorem dX9_apart_13 : decode cX9_apart 13 = .ok (.ireturn, 1) := by decide +kernel
set_option maxRecDepth 20000 in
theorem ihX9_apart_9 : ∀ w ∈ u_ws RX9 TX9 11, w ∈ wsX9_apart := fun _ h => List.mem_cons_of_mem _ (List.mem_append_left _ (List.mem_append_left _ (List.mem_append_left _ (List.mem_append_left _ (List.mem_append_right _ h)))))
set_option maxHeartbeats 4000000 in
set_option maxRecDepth 100000 in
theorem t_X9_apart (l : Launch) (D : va_G) (cy : Nat → ClassId) (a : Nat → Nat) (sz : Nat) (J : Nat → Int64) (I : Nat → Int32) (O : Nat → Option Nat) (R : Nat → Nat → Int32) (RO : Nat → Nat → Option Nat) (LL : va_W) (Y : va_W) (x0 : Int32) (x1 : Int32) (hQ : ∀ i, i < 81 → vp_in (R 6 i) 81) (hM : CI a Y I O RO) (hL : LOK cy (O 5) LL) : Met l yX9_apart wsX9_apart ({ frames := 6, cells := 14, slots := 68630, locals := 145 }) (va_Pc [.ref (a 0), .int x0, .int x1] (PW D cy sz (CT cy a J I O R RO (LL ++ Y)))) (va_Qi (fun r (u : TS) => ∃ (w0 : Int32), ∃ (w1 : Int32), ∃ (w2 : Option Nat), ∃ (w3 : Option Nat), ∃ (w4 : Nat → Int32), ∃ (w5 : Nat → Int32), ∃ (w6 : Nat → Int32), ∃ (LL9 : va_W), ∃ (Y9 : va_W), ((∀ c, c ∈ Y → c ∈ Y9) ∧ LOK cy w2 LL9 ∧ (∀ i, i < 81 → vp_in (w6 i) 81)) ∧ u = (J, (va_up (va_up I 10 w0) 99 w1), (va_up (va_up O 5 w2) 100 w3), (va_up (va_up (va_up R 4 w4) 5 w5) 6 w6), RO, LL9, Y9)) (BW D (va_A (CT cy a J I O R RO (LL ++ Y)) sz) (CTu cy a)) (va_A (CT cy a J I O R RO (LL ++ Y)) sz)) 14 68630 (va_A (CT cy a J I O R RO (LL ++ Y)) sz) := by
  refine Met.ofW (cc := cX9_apart) (maxL := 3) (ret := (some .int)) (by decide) rfl ?_
  intro p e s m args below meth c s₁ B hml hv
  obtain ⟨rfl, rfl, hP, hK, hN, hD0⟩ := hv
  have hx := B.exec
  have hb := B.bytes
  have hr := B.returns
  have hts := atoms_spec (ws := wsX9_apart) B.pre
  have hown : s.vm.findClass RX9 = some m.cls := findClass_of_methodNamed B.named
  have hlocks := B.notSynchronized
  have hw0 := hts (.constant RX9 43 (-100001)) (by decide +kernel)
  have hw1 := hts (.fieldLink RX9 24 "ParquetLayer" "heights" "LParquetLayer$Heights;") (by decide +kernel)
  have hw2 := hts (.constant RX9 128 (-100004)) (by decide +kernel)
  have hi9 := ihX9_apart_9
  have hD := hD0.self (sz := s.heap.size)
  generalize hAe : va_A (CT cy a J I O R RO (LL ++ Y)) s.heap.size = A at hD ⊢
  have hA : ∀ q : Nat, s.heap.size ≤ q → A q := fun q h => by rw [← hAe]; exact Or.inr h
  have hS : va_S A s.heap s.heap [] := va_S.rf
  have hl := lv_entry ([.ref (a 0), .int x0, .int x1]) (n := 3) (Nat.le_of_ble_eq_true rfl)
  rw [lg_entry_eq]
  generalize (lg_sl ([.ref (a 0), .int x0, .int x1]) ++ List.replicate (3 - (lg_sl ([.ref (a 0), .int x0, .int x1])).length) Slot.unset).toArray = ls at hl ⊢
  have hl : lv_has ls 3 [(0, .ref (a 0)), (1, .int x0), (2, .int x1)] := hl
  have hRO0 := hM.2.2.2.2.2.2.2.2.1
  have hRO1 := hM.2.2.2.2.2.2.2.2.2.1
  have hRO2 := hM.2.2.2.2.2.2.2.2.2.2.1
  have hRO3 := hM.2.2.2.2.2.2.2.2.2.2.2
  have hP : va_P D vwCl (CT cy a J (va_up (va_up I 10 (I 10)) 99 (I 99)) (va_up (va_up O 5 (O 5)) 100 (O 100)) (va_up (va_up (va_up R 4 (R 4)) 5 (R 5)) 6 (R 6)) RO (LL ++ Y)) s.heap := hP
  have hD : va_D A (CT cy a J (va_up (va_up I 10 (I 10)) 99 (I 99)) (va_up (va_up O 5 (O 5)) 100 (O 100)) (va_up (va_up (va_up R 4 (R 4)) 5 (R 5)) 6 (R 6)) RO (LL ++ Y)) := hD
  refine lv_aload_n hx hb dX9_apart_0 rfl (lv_at hl 0 rfl) ?_
  refine kRa_i (As := []) (rest := []) (q0 := 0) ⟨hx, hb, hml, hown, hts⟩ (t_X9_isWhole l D cy a _ J (va_up (va_up I 10 (I 10)) 99 (I 99)) (va_up (va_up O 5 (O 5)) 100 (O 100)) (va_up (va_up (va_up R 4 (R 4)) 5 (R 5)) 6 (R 6)) RO LL Y   ⟨hM.1, hM.2.1, hM.2.2.1, hM.2.2.2.1, hM.2.2.2.2.1, hM.2.2.2.2.2.1, hM.2.2.2.2.2.2.1, hM.2.2.2.2.2.2.2.1, hRO0, hRO1, hRO2, hRO3⟩) (cwV 0 hts gX9_apart_X9_isWhole rfl rfl rfl (by decide +kernel) ⟨Nat.le_of_ble_eq_true rfl, Nat.le_of_ble_eq_true rfl⟩) hK hN hP hD rfl rfl rfl hl.1 rfl (Nat.le_of_ble_eq_true rfl) dX9_apart_1 ⟨Nat.le_of_ble_eq_true rfl, Nat.le_of_ble_eq_true rfl⟩ (fun r_1 hr_2 => ?_)
  obtain ⟨zb_3, rfl⟩ := hr_2
  refine lv_if_ne (tgt := 14) hx hb dX9_apart_4 (by decide) (fun c_4 => ?_) (fun c_4 => ?_)
  · replace c_4 := bI_t c_4
    refine lv_aload_n hx hb dX9_apart_14 rfl (lv_at hl 0 rfl) ?_
    refine lv_iload_n hx hb dX9_apart_15 rfl (lv_at hl 1 rfl) ?_
    refine kM_i (As := [.int x0]) (rest := []) (q0 := 0) ⟨hx, hb, hml, hown, hts⟩ (t_X9_isLaying l D cy a _ J (va_up (va_up I 10 (I 10)) 99 (I 99)) (va_up (va_up O 5 (O 5)) 100 (O 100)) (va_up (va_up (va_up R 4 (R 4)) 5 (R 5)) 6 (R 6)) RO LL Y x0  ⟨hM.1, hM.2.1, hM.2.2.1, hM.2.2.2.1, hM.2.2.2.2.1, hM.2.2.2.2.2.1, hM.2.2.2.2.2.2.1, hM.2.2.2.2.2.2.2.1, hRO0, hRO1, hRO2, hRO3⟩ hL) (cwV 1 hts gX9_apart_X9_isLaying rfl rfl rfl (by decide +kernel) ⟨Nat.le_of_ble_eq_true rfl, Nat.le_of_ble_eq_true rfl⟩) hK hN hP hD hS hA rfl rfl rfl hl.1 rfl (Nat.le_of_ble_eq_true rfl) dX9_apart_16 ⟨Nat.le_of_ble_eq_true rfl, Nat.le_of_ble_eq_true rfl⟩ (fun r_5 u H locs hw hP hD hS => ?_)
    obtain ⟨w_6, zb_7, LL_8, ⟨rfl, hL_9⟩, rfl⟩ := hw
    have hP : va_P D vwCl (CT cy a J (va_up (va_up I 10 (I 10)) 99 (I 99)) (va_up (va_up O 5 w_6) 100 (O 100)) (va_up (va_up (va_up R 4 (R 4)) 5 (R 5)) 6 (R 6)) RO (LL_8 ++ Y)) H := hP
    have hD : va_D A (CT cy a J (va_up (va_up I 10 (I 10)) 99 (I 99)) (va_up (va_up O 5 w_6) 100 (O 100)) (va_up (va_up (va_up R 4 (R 4)) 5 (R 5)) 6 (R 6)) RO (LL_8 ++ Y)) := hD
    refine lv_if_eq (tgt := 30) hx hb dX9_apart_19 (by decide) (fun c_10 => ?_) (fun c_10 => ?_)
    · replace c_10 := bI_f c_10
      refine lv_aload_n hx hb dX9_apart_30 rfl (lv_at hl 0 rfl) ?_
      refine lv_ldc (v := (-100001)) hx hb hown hw0 dX9_apart_31 ?_
      refine kM_i (As := [.int (-100001)]) (rest := []) (q0 := 0) ⟨hx, hb, hml, hown, hts⟩ (t_X9_finding l D cy a _ J (va_up (va_up I 10 (I 10)) 99 (I 99)) (va_up (va_up O 5 w_6) 100 (O 100)) (va_up (va_up (va_up R 4 (R 4)) 5 (R 5)) 6 (R 6)) RO LL_8 Y ((-100001) : Int32)   ) (cwV 1 hts gX9_apart_X9_finding rfl rfl rfl (by decide +kernel) ⟨Nat.le_of_ble_eq_true rfl, Nat.le_of_ble_eq_true rfl⟩) hK hN hP hD hS hA rfl rfl rfl hl.1 rfl (Nat.le_of_ble_eq_true rfl) dX9_apart_33 ⟨Nat.le_of_ble_eq_true rfl, Nat.le_of_ble_eq_true rfl⟩ (fun r_11 u H locs hw hP hD hS => ?_)
      obtain ⟨w_12, rfl, rfl⟩ := hw
      have hP : va_P D vwCl (CT cy a J (va_up (va_up I 10 w_12) 99 (I 99)) (va_up (va_up O 5 w_6) 100 (O 100)) (va_up (va_up (va_up R 4 (R 4)) 5 (R 5)) 6 (R 6)) RO (LL_8 ++ Y)) H := hP
      have hD : va_D A (CT cy a J (va_up (va_up I 10 w_12) 99 (I 99)) (va_up (va_up O 5 w_6) 100 (O 100)) (va_up (va_up (va_up R 4 (R 4)) 5 (R 5)) 6 (R 6)) RO (LL_8 ++ Y)) := hD
      refine W.widen (k := 14) (n := 68630) (Nat.le_of_ble_eq_true rfl) (Nat.le_of_ble_eq_true rfl) ?_
      exact wret_i hx hb hr hlocks (J, (va_up (va_up I 10 w_12) 99 (I 99)), (va_up (va_up O 5 w_6) 100 (O 100)), (va_up (va_up (va_up R 4 (R 4)) 5 (R 5)) 6 (R 6)), RO, LL_8, Y) ⟨w_12, (I 99), w_6, (O 100), (R 4), (R 5), (R 6), LL_8, Y, ⟨(fun _ h => h), hL_9, hQ⟩, rfl⟩ hP hD hS dX9_apart_36
    · replace c_10 := bI_t c_10
      refine lv_aload_n hx hb dX9_apart_22 rfl (lv_at hl 0 rfl) ?_
      refine lv_iload_n hx hb dX9_apart_23 rfl (lv_at hl 2 rfl) ?_
      refine kM_i (As := [.int x1]) (rest := []) (q0 := 0) ⟨hx, hb, hml, hown, hts⟩ (t_X9_isLaying l D cy a _ J (va_up (va_up I 10 (I 10)) 99 (I 99)) (va_up (va_up O 5 w_6) 100 (O 100)) (va_up (va_up (va_up R 4 (R 4)) 5 (R 5)) 6 (R 6)) RO LL_8 Y x1  ⟨hM.1, hM.2.1, hM.2.2.1, hM.2.2.2.1, hM.2.2.2.2.1, hM.2.2.2.2.2.1, hM.2.2.2.2.2.2.1, hM.2.2.2.2.2.2.2.1, hRO0, hRO1, hRO2, hRO3⟩ hL_9) (cwV 1 hts gX9_apart_X9_isLaying rfl rfl rfl (by decide +kernel) ⟨Nat.le_of_ble_eq_true rfl, Nat.le_of_ble_eq_true rfl⟩) hK hN hP hD hS hA rfl rfl rfl hl.1 rfl (Nat.le_of_ble_eq_true rfl) dX9_apart_24 ⟨Nat.le_of_ble_eq_true rfl, Nat.le_of_ble_eq_true rfl⟩ (fun r_13 u H locs hw hP hD hS => ?_)
      obtain ⟨w_14, zb_15, LL_16, ⟨rfl, hL_17⟩, rfl⟩ := hw
      have hP : va_P D vwCl (CT cy a J (va_up (va_up I 10 (I 10)) 99 (I 99)) (va_up (va_up O 5 w_14) 100 (O 100)) (va_up (va_up (va_up R 4 (R 4)) 5 (R 5)) 6 (R 6)) RO (LL_16 ++ Y)) H := hP
      have hD : va_D A (CT cy a J (va_up (va_up I 10 (I 10)) 99 (I 99)) (va_up (va_up O 5 w_14) 100 (O 100)) (va_up (va_up (va_up R 4 (R 4)) 5 (R 5)) 6 (R 6)) RO (LL_16 ++ Y)) := hD
      refine lv_if_ne (tgt := 37) hx hb dX9_apart_27 (by decide) (fun c_18 => ?_) (fun c_18 => ?_)
      · replace c_18 := bI_t c_18
        refine lv_aload_n hx hb dX9_apart_37 rfl (lv_at hl 0 rfl) ?_
        refine lv_aload_n hx hb dX9_apart_38 rfl (lv_at hl 0 rfl) ?_
        refine lv_iload_n hx hb dX9_apart_39 rfl (lv_at hl 1 rfl) ?_
        refine kM_r (As := [.int x0]) (rest := [.ref (a 0)]) (q0 := 0) ⟨hx, hb, hml, hown, hts⟩ (t_X9_layingOf l D cy a _ J (va_up (va_up I 10 (I 10)) 99 (I 99)) (va_up (va_up O 5 w_14) 100 (O 100)) (va_up (va_up (va_up R 4 (R 4)) 5 (R 5)) 6 (R 6)) RO LL_16 Y x0  ⟨hM.1, hM.2.1, hM.2.2.1, hM.2.2.2.1, hM.2.2.2.2.1, hM.2.2.2.2.2.1, hM.2.2.2.2.2.2.1, hM.2.2.2.2.2.2.2.1, hRO0, hRO1, hRO2, hRO3⟩ hL_17) (cwV 1 hts gX9_apart_X9_layingOf rfl rfl rfl (by decide +kernel) ⟨Nat.le_of_ble_eq_true rfl, Nat.le_of_ble_eq_true rfl⟩) hK hN hP hD hS hA rfl rfl rfl hl.1 rfl (Nat.le_of_ble_eq_true rfl) dX9_apart_40 ⟨Nat.le_of_ble_eq_true rfl, Nat.le_of_ble_eq_true rfl⟩ (fun u r_19 H locs hw hP hD hS => ?_)
        obtain ⟨g_20, g_21, g_22, g_23⟩ := u
        have hL_24 : LOK cy g_20 g_21 := hw
        have hs_25 : ∀ c, c ∈ Y → c ∈ (Y ++ [laC r_19 x0 g_22 g_23]) := fun c h => List.mem_append_left _ h
        have hi_26 : chO (Y ++ [laC r_19 x0 g_22 g_23]) (O 7) := chO_mono hs_25 hM.2.1
        have hi_27 : layO (Y ++ [laC r_19 x0 g_22 g_23]) (O 8) := layO_mono hs_25 hM.2.2.1
        have hi_28 : ∀ i, i < 20 → pasO (Y ++ [laC r_19 x0 g_22 g_23]) ((RO 2) i) := pas_mono hs_25 hM.2.2.2.1
        have hmono_29 : ∀ c, c ∈ Y → c ∈ (Y ++ [laC r_19 x0 g_22 g_23]) := fun c h => hs_25 c ((fun _ h => h) c h)
        have hP : va_P D vwCl (CT cy a J (va_up (va_up I 10 (I 10)) 99 (I 99)) (va_up (va_up O 5 g_20) 100 (O 100)) (va_up (va_up (va_up R 4 (R 4)) 5 (R 5)) 6 (R 6)) RO (g_21 ++ (Y ++ [laC r_19 x0 g_22 g_23]))) H := hP
        have hD : va_D A (CT cy a J (va_up (va_up I 10 (I 10)) 99 (I 99)) (va_up (va_up O 5 g_20) 100 (O 100)) (va_up (va_up (va_up R 4 (R 4)) 5 (R 5)) 6 (R 6)) RO (g_21 ++ (Y ++ [laC r_19 x0 g_22 g_23]))) := hD
        refine lv_aload_n hx hb dX9_apart_43 rfl (lv_at hl 0 rfl) ?_
        refine lv_iload_n hx hb dX9_apart_44 rfl (lv_at hl 2 rfl) ?_
        refine kM_r (As := [.int x1]) (rest := [.ref r_19, .ref (a 0)]) (q0 := 0) ⟨hx, hb, hml, hown, hts⟩ (t_X9_layingOf l D cy a _ J (va_up (va_up I 10 (I 10)) 99 (I 99)) (va_up (va_up O 5 g_20) 100 (O 100)) (va_up (va_up (va_up R 4 (R 4)) 5 (R 5)) 6 (R 6)) RO g_21 (Y ++ [laC r_19 x0 g_22 g_23]) x1  ⟨hM.1, hi_26, hi_27, hi_28, hM.2.2.2.2.1, hM.2.2.2.2.2.1, hM.2.2.2.2.2.2.1, hM.2.2.2.2.2.2.2.1, hRO0, hRO1, hRO2, hRO3⟩ hL_24) (cwV 1 hts gX9_apart_X9_layingOf rfl rfl rfl (by decide +kernel) ⟨Nat.le_of_ble_eq_true rfl, Nat.le_of_ble_eq_true rfl⟩) hK hN hP hD hS hA rfl rfl rfl hl.1 rfl (Nat.le_of_ble_eq_true rfl) dX9_apart_45 ⟨Nat.le_of_ble_eq_true rfl, Nat.le_of_ble_eq_true rfl⟩ (fun u r_30 H locs hw hP hD hS => ?_)
        obtain ⟨g_31, g_32, g_33, g_34⟩ := u
        have hL_35 : LOK cy g_31 g_32 := hw
        have hs_36 : ∀ c, c ∈ (Y ++ [laC r_19 x0 g_22 g_23]) → c ∈ ((Y ++ [laC r_19 x0 g_22 g_23]) ++ [laC r_30 x1 g_33 g_34]) := fun c h => List.mem_append_left _ h
        have hi_37 : chO ((Y ++ [laC r_19 x0 g_22 g_23]) ++ [laC r_30 x1 g_33 g_34]) (O 7) := chO_mono hs_36 hi_26
        have hi_38 : layO ((Y ++ [laC r_19 x0 g_22 g_23]) ++ [laC r_30 x1 g_33 g_34]) (O 8) := layO_mono hs_36 hi_27
        have hi_39 : ∀ i, i < 20 → pasO ((Y ++ [laC r_19 x0 g_22 g_23]) ++ [laC r_30 x1 g_33 g_34]) ((RO 2) i) := pas_mono hs_36 hi_28
        have hmono_40 : ∀ c, c ∈ Y → c ∈ ((Y ++ [laC r_19 x0 g_22 g_23]) ++ [laC r_30 x1 g_33 g_34]) := fun c h => hs_36 c (hmono_29 c h)
        have hP : va_P D vwCl (CT cy a J (va_up (va_up I 10 (I 10)) 99 (I 99)) (va_up (va_up O 5 g_31) 100 (O 100)) (va_up (va_up (va_up R 4 (R 4)) 5 (R 5)) 6 (R 6)) RO (g_32 ++ ((Y ++ [laC r_19 x0 g_22 g_23]) ++ [laC r_30 x1 g_33 g_34]))) H := hP
        have hD : va_D A (CT cy a J (va_up (va_up I 10 (I 10)) 99 (I 99)) (va_up (va_up O 5 g_31) 100 (O 100)) (va_up (va_up (va_up R 4 (R 4)) 5 (R 5)) 6 (R 6)) RO (g_32 ++ ((Y ++ [laC r_19 x0 g_22 g_23]) ++ [laC r_30 x1 g_33 g_34]))) := hD
        refine kM_v (As := [.ref r_19, .ref r_30]) (rest := []) (q0 := 0) ⟨hx, hb, hml, hown, hts⟩ (t_X9_measureBoth l D cy a _ J (va_up (va_up I 10 (I 10)) 99 (I 99)) (va_up (va_up O 5 g_31) 100 (O 100)) (va_up (va_up (va_up R 4 (R 4)) 5 (R 5)) 6 (R 6)) RO g_32 ((Y ++ [laC r_19 x0 g_22 g_23]) ++ [laC r_30 x1 g_33 g_34]) r_19 x0 g_22 g_23 (hs_36 _ mem_last) r_30 x1 g_33 g_34 mem_last hQ  ) (cwV 2 hts gX9_apart_X9_measureBoth rfl rfl rfl (by decide +kernel) ⟨Nat.le_of_ble_eq_true rfl, Nat.le_of_ble_eq_true rfl⟩) hK hN hP hD hS hA rfl rfl rfl hl.1 rfl (Nat.le_of_ble_eq_true rfl) dX9_apart_48 ⟨Nat.le_of_ble_eq_true rfl, Nat.le_of_ble_eq_true rfl⟩ (fun u H locs hw hP hD hS => ?_)
        obtain ⟨w_42, w_43, w_44, w_45, w_46, hp_47, rfl⟩ := hw
        have hP : va_P D vwCl (CT cy a J (va_up (va_up I 10 (I 10)) 99 w_42) (va_up (va_up O 5 g_31) 100 w_43) (va_up (va_up (va_up R 4 w_44) 5 w_45) 6 w_46) RO (g_32 ++ ((Y ++ [laC r_19 x0 g_22 g_23]) ++ [laC r_30 x1 g_33 g_34]))) H := hP
        have hD : va_D A (CT cy a J (va_up (va_up I 10 (I 10)) 99 w_42) (va_up (va_up O 5 g_31) 100 w_43) (va_up (va_up (va_up R 4 w_44) 5 w_45) 6 w_46) RO (g_32 ++ ((Y ++ [laC r_19 x0 g_22 g_23]) ++ [laC r_30 x1 g_33 g_34]))) := hD
        refine lv_aload_n hx hb dX9_apart_51 rfl (lv_at hl 0 rfl) ?_
        refine va_get (D := D) (ci := 8) (v := .ref (a 3)) (C := RX9) (T := TX9) (N := 11) hx hb hts hi9 hown hK hP 0 rfl rfl 2 (by decide) hw1 (fun _ h9 => h9) rfl dX9_apart_52 ?_
        refine kRa_i (As := []) (rest := []) (q0 := 3) ⟨hx, hb, hml, hown, hts⟩ (t_X2_distance l D cy a _ J (va_up (va_up I 10 (I 10)) 99 w_42) (va_up (va_up O 5 g_31) 100 w_43) (va_up (va_up (va_up R 4 w_44) 5 w_45) 6 w_46) RO g_32 ((Y ++ [laC r_19 x0 g_22 g_23]) ++ [laC r_30 x1 g_33 g_34])   ) (cwV 0 hts gX9_apart_X2_distance rfl rfl rfl (by decide +kernel) ⟨Nat.le_of_ble_eq_true rfl, Nat.le_of_ble_eq_true rfl⟩) hK hN hP hD rfl rfl rfl hl.1 rfl (Nat.le_of_ble_eq_true rfl) dX9_apart_55 ⟨Nat.le_of_ble_eq_true rfl, Nat.le_of_ble_eq_true rfl⟩ (fun r_48 hr_49 => ?_)
        exact wret_i hx hb hr hlocks (J, (va_up (va_up I 10 (I 10)) 99 w_42), (va_up (va_up O 5 g_31) 100 w_43), (va_up (va_up (va_up R 4 w_44) 5 w_45) 6 w_46), RO, g_32, (Y ++ [laC r_19 x0 g_22 g_23]) ++ [laC r_30 x1 g_33 g_34]) ⟨(I 10), w_42, g_31, w_43, w_44, w_45, w_46, g_32, ((Y ++ [laC r_19 x0 g_22 g_23]) ++ [laC r_30 x1 g_33 g_34]), ⟨hmono_40, hL_35, hp_47⟩, rfl⟩ hP hD hS dX9_apart_58
      · replace c_18 := bI_f c_18
        refine lv_aload_n hx hb dX9_apart_30 rfl (lv_at hl 0 rfl) ?_
        refine lv_ldc (v := (-100001)) hx hb hown hw0 dX9_apart_31 ?_
        refine kM_i (As := [.int (-100001)]) (rest := []) (q0 := 0) ⟨hx, hb, hml, hown, hts⟩ (t_X9_finding l D cy a _ J (va_up (va_up I 10 (I 10)) 99 (I 99)) (va_up (va_up O 5 w_14) 100 (O 100)) (va_up (va_up (va_up R 4 (R 4)) 5 (R 5)) 6 (R 6)) RO LL_16 Y ((-100001) : Int32)   ) (cwV 1 hts gX9_apart_X9_finding rfl rfl rfl (by decide +kernel) ⟨Nat.le_of_ble_eq_true rfl, Nat.le_of_ble_eq_true rfl⟩) hK hN hP hD hS hA rfl rfl rfl hl.1 rfl (Nat.le_of_ble_eq_true rfl) dX9_apart_33 ⟨Nat.le_of_ble_eq_true rfl, Nat.le_of_ble_eq_true rfl⟩ (fun r_50 u H locs hw hP hD hS => ?_)
        obtain ⟨w_51, rfl, rfl⟩ := hw
        have hP : va_P D vwCl (CT cy a J (va_up (va_up I 10 w_51) 99 (I 99)) (va_up (va_up O 5 w_14) 100 (O 100)) (va_up (va_up (va_up R 4 (R 4)) 5 (R 5)) 6 (R 6)) RO (LL_16 ++ Y)) H := hP
        have hD : va_D A (CT cy a J (va_up (va_up I 10 w_51) 99 (I 99)) (va_up (va_up O 5 w_14) 100 (O 100)) (va_up (va_up (va_up R 4 (R 4)) 5 (R 5)) 6 (R 6)) RO (LL_16 ++ Y)) := hD
        refine W.widen (k := 14) (n := 68630) (Nat.le_of_ble_eq_true rfl) (Nat.le_of_ble_eq_true rfl) ?_
        exact wret_i hx hb hr hlocks (J, (va_up (va_up I 10 w_51) 99 (I 99)), (va_up (va_up O 5 w_14) 100 (O 100)), (va_up (va_up (va_up R 4 (R 4)) 5 (R 5)) 6 (R 6)), RO, LL_16, Y) ⟨w_51, (I 99), w_14, (O 100), (R 4), (R 5), (R 6), LL_16, Y, ⟨(fun _ h => h), hL_17, hQ⟩, rfl⟩ hP hD hS dX9_apart_36
  · replace c_4 := bI_f c_4
    refine lv_aload_n hx hb dX9_apart_7 rfl (lv_at hl 0 rfl) ?_
    refine lv_ldc (v := (-100004)) hx hb hown hw2 dX9_apart_8 ?_
    refine kM_i (As := [.int (-100004)]) (rest := []) (q0 := 0) ⟨hx, hb, hml, hown, hts⟩ (t_X9_finding l D cy a _ J (va_up (va_up I 10 (I 10)) 99 (I 99)) (va_up (va_up O 5 (O 5)) 100 (O 100)) (va_up (va_up (va_up R 4 (R 4)) 5 (R 5)) 6 (R 6)) RO LL Y ((-100004) : Int32)   ) (cwV 1 hts gX9_apart_X9_finding rfl rfl rfl (by decide +kernel) ⟨Nat.le_of_ble_eq_true rfl, Nat.le_of_ble_eq_true rfl⟩) hK hN hP hD hS hA rfl rfl rfl hl.1 rfl (Nat.le_of_ble_eq_true rfl) dX9_apart_10 ⟨Nat.le_of_ble_eq_true rfl, Nat.le_of_ble_eq_true rfl⟩ (fun r_52 u H locs hw hP hD hS => ?_)
    obtain ⟨w_53, rfl, rfl⟩ := hw
    have hP : va_P D vwCl (CT cy a J (va_up (va_up I 10 w_53) 99 (I 99)) (va_up (va_up O 5 (O 5)) 100 (O 100)) (va_up (va_up (va_up R 4 (R 4)) 5 (R 5)) 6 (R 6)) RO (LL ++ Y)) H := hP
    have hD : va_D A (CT cy a J (va_up (va_up I 10 w_53) 99 (I 99)) (va_up (va_up O 5 (O 5)) 100 (O 100)) (va_up (va_up (va_up R 4 (R 4)) 5 (R 5)) 6 (R 6)) RO (LL ++ Y)) := hD
    refine W.widen (k := 14) (n := 68630) (Nat.le_of_ble_eq_true rfl) (Nat.le_of_ble_eq_true rfl) ?_
    exact wret_i hx hb hr hlocks (J, (va_up (va_up I 10 w_53) 99 (I 99)), (va_up (va_up O 5 (O 5)) 100 (O 100)), (va_up (va_up (va_up R 4 (R 4)) 5 (R 5)) 6 (R 6)), RO, LL, Y) ⟨w_53, (I 99), (O 5), (O 100), (R 4), (R 5), (R 6), LL, Y, ⟨(fun _ h => h), hL, hQ⟩, rfl⟩ hP hD hS dX9_apart_13
