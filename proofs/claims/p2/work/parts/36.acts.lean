theorem dX9_has_0 : decode cX9_has 0 = .ok (.iload_n 1, 1) := by decide +kernel
set_option maxRecDepth 20000 in
theorem ggX9_has_X1_isField : GoodIn wsX9_has wsX1_isField := goodIn_r _ [6] (by decide +kernel) (by decide +kernel)
set_option maxRecDepth 20000 in
theorem gX9_has_X1_isField : GoodIn wsX9_has (va_wsS RX9 60 yX1_isField wsX1_isField) := goodIn_app (goodIn_of _ (by decide +kernel)) ggX9_has_X1_isField
theorem dX9_has_1 : decode cX9_has 1 = .ok (.invokestatic 60, 3) := by decide +kernel
theorem dX9_has_4 : decode cX9_has 4 = .ok (.ifCond .ne 10, 3) := by decide +kernel
theorem dX9_has_14 : decode cX9_has 14 = .ok (.aload_n 0, 1) := by decide +kernel
theorem dX9_has_15 : decode cX9_has 15 = .ok (.getfield 48, 3) := by decide +kernel
theorem dX9_has_18 : decode cX9_has 18 = .ok (.iload_n 1, 1) := by decide +kernel
set_option maxRecDepth 20000 in
theorem ggX9_has_X1_holds : GoodIn wsX9_has wsX1_holds := goodIn_r _ [15] (by decide +kernel) (by decide +kernel)
set_option maxRecDepth 20000 in
theorem gX9_has_X1_holds : GoodIn wsX9_has (va_wsS RX9 66 yX1_holds wsX1_holds) := goodIn_app (goodIn_of _ (by decide +kernel)) ggX9_has_X1_holds
theorem dX9_has_19 : decode cX9_has 19 = .ok (.invokestatic 66, 3) := by decide +kernel
set_option maxRecDepth 20000 in
theorem ggX9_has_X9_asNumber : GoodIn wsX9_has wsX9_asNumber := goodIn_r _ [18] (by decide +kernel) (by decide +kernel)
set_option maxRecDepth 20000 in
theorem gX9_has_X9_asNumber : GoodIn wsX9_has (va_wsS RX9 70 yX9_asNumber wsX9_asNumber) := goodIn_app (goodIn_of _ (by decide +kernel)) ggX9_has_X9_asNumber
theorem dX9_has_22 : decode cX9_has 22 = .ok (.invokestatic 70, 3) := by decide +kernel
theorem dX9_has_25 : decode cX9_has 25 = .ok (.ireturn, 1) := by decide +kernel
theorem dX9_has_7 : decode cX9_has 7 = .ok (.aload_n 0, 1) := by decide +kernel
theorem dX9_has_8 : decode cX9_has 8 = .ok (.ldc 43, 2) := by decide +kernel
set_option maxRecDepth 20000 in
theorem ggX9_has_X9_finding : GoodIn wsX9_has wsX9_finding := goodIn_r _ [11, 12, 19, 20, 21, 22, 23, 24, 25, 26, 27, 28, 29] (by decide +kernel) (by decide +kernel)
set_option maxRecDepth 20000 in
theorem gX9_has_X9_finding : GoodIn wsX9_has (wsV RX9 44 RX9 yX9_finding wsX9_finding) := goodIn_app (goodIn_of _ (by decide +kernel)) ggX9_has_X9_finding
theorem dX9_has_10 : decode cX9_has 10 = .ok (.invokevirtual 44, 3) := by decide +kernel
theorem dX9_has_13 : decode cX9_has 13 = .ok (.ireturn, 1) := by decide +kernel
set_option maxRecDepth 20000 in
theorem ihX9_has_9 : ∀ w ∈ u_ws RX9 TX9 11, w ∈ wsX9_has := by decide +kernel
set_option maxHeartbeats 4000000 in
set_option maxRecDepth 100000 in
theorem t_X9_has (l : Launch) (D : va_G) (cy : Nat → ClassId) (a : Nat → Nat) (sz : Nat) (J : Nat → Int64) (I : Nat → Int32) (O : Nat → Option Nat) (R : Nat → Nat → Int32) (RO : Nat → Nat → Option Nat) (LL : va_W) (Y : va_W) (x0 : Int32) : Met l yX9_has wsX9_has ({ frames := 1, cells := 0, slots := 0, locals := 22 }) (va_Pc [.ref (a 0), .int x0] (PW D cy sz (CT cy a J I O R RO (LL ++ Y)))) (va_Qi (fun r (u : TS) => ∃ (w0 : Int32), (True) ∧ u = (J, (va_up I 10 w0), O, R, RO, LL, Y)) (BW D (va_A (CT cy a J I O R RO (LL ++ Y)) sz) (CTu cy a)) (va_A (CT cy a J I O R RO (LL ++ Y)) sz)) 0 0 (va_A (CT cy a J I O R RO (LL ++ Y)) sz) := by
  refine Met.ofW (cc := cX9_has) (maxL := 2) (ret := (some .int)) (by decide) rfl ?_
  intro p e s m args below meth c s₁ B hml hv
  obtain ⟨rfl, rfl, hP, hK, hN, hD0⟩ := hv
  have hx := B.exec
  have hb := B.bytes
  have hr := B.returns
  have hts := atoms_spec (ws := wsX9_has) B.pre
  have hown : s.vm.findClass RX9 = some m.cls := findClass_of_methodNamed B.named
  have hlocks := B.notSynchronized
  have hw0 := hts (.fieldLink RX9 48 "ParquetLayer" "fields" "J") (by decide +kernel)
  have hw1 := hts (.constant RX9 43 (-100001)) (by decide +kernel)
  have hi9 := ihX9_has_9
  have hD := hD0.self (sz := s.heap.size)
  generalize hAe : va_A (CT cy a J I O R RO (LL ++ Y)) s.heap.size = A at hD ⊢
  have hA : ∀ q : Nat, s.heap.size ≤ q → A q := fun q h => by rw [← hAe]; exact Or.inr h
  have hS : va_S A s.heap s.heap [] := va_S.rf
  have hl := lv_entry ([.ref (a 0), .int x0]) (n := 2) (Nat.le_of_ble_eq_true rfl)
  rw [lg_entry_eq]
  generalize (lg_sl ([.ref (a 0), .int x0]) ++ List.replicate (2 - (lg_sl ([.ref (a 0), .int x0])).length) Slot.unset).toArray = ls at hl ⊢
  have hl : lv_has ls 2 [(0, .ref (a 0)), (1, .int x0)] := hl
  have hP : va_P D vwCl (CT cy a J (va_up I 10 (I 10)) O R RO (LL ++ Y)) s.heap := hP
  have hD : va_D A (CT cy a J (va_up I 10 (I 10)) O R RO (LL ++ Y)) := hD
  refine lv_iload_n hx hb dX9_has_0 rfl (lv_at hl 1 rfl) ?_
  refine kS_i (As := [.int x0]) (rest := []) ⟨hx, hb, hml, hown, hts⟩ (c_X1_isField l x0) (va_cwS 1 hts gX9_has_X1_isField rfl rfl rfl (by decide +kernel) ⟨Nat.le_of_ble_eq_true rfl, Nat.le_of_ble_eq_true rfl⟩) rfl hl.1 rfl (Nat.le_of_ble_eq_true rfl) dX9_has_1 ⟨Nat.le_of_ble_eq_true rfl, Nat.le_of_ble_eq_true rfl⟩ ?_
  refine lv_if_ne (tgt := 14) hx hb dX9_has_4 (by decide) (fun c_1 => ?_) (fun c_1 => ?_)
  · replace c_1 := bI_t c_1
    refine lv_aload_n hx hb dX9_has_14 rfl (lv_at hl 0 rfl) ?_
    refine va_get (D := D) (ci := 8) (v := .long (J 6)) (C := RX9) (T := TX9) (N := 11) hx hb hts hi9 hown hK hP 0 rfl rfl 6 (by decide) hw0 (fun _ h9 => h9) rfl dX9_has_15 ?_
    refine lv_iload_n hx hb dX9_has_18 rfl (lv_at hl 1 rfl) ?_
    refine kS_i (As := [.long (J 6), .int x0]) (rest := []) ⟨hx, hb, hml, hown, hts⟩ (c_X1_holds l (J 6) x0) (va_cwS 2 hts gX9_has_X1_holds rfl rfl rfl (by decide +kernel) ⟨Nat.le_of_ble_eq_true rfl, Nat.le_of_ble_eq_true rfl⟩) rfl hl.1 rfl (Nat.le_of_ble_eq_true rfl) dX9_has_19 ⟨Nat.le_of_ble_eq_true rfl, Nat.le_of_ble_eq_true rfl⟩ ?_
    refine kS_i (As := [.int (bI (g_holds (J 6) x0))]) (rest := []) ⟨hx, hb, hml, hown, hts⟩ (c_X9_asNumber l (g_holds (J 6) x0)) (va_cwS 1 hts gX9_has_X9_asNumber rfl rfl rfl (by decide +kernel) ⟨Nat.le_of_ble_eq_true rfl, Nat.le_of_ble_eq_true rfl⟩) rfl hl.1 rfl (Nat.le_of_ble_eq_true rfl) dX9_has_22 ⟨Nat.le_of_ble_eq_true rfl, Nat.le_of_ble_eq_true rfl⟩ ?_
    exact wret_i hx hb hr hlocks (J, (va_up I 10 (I 10)), O, R, RO, LL, Y) ⟨(I 10), trivial, rfl⟩ hP hD hS dX9_has_25
  · replace c_1 := bI_f c_1
    refine lv_aload_n hx hb dX9_has_7 rfl (lv_at hl 0 rfl) ?_
    refine lv_ldc (v := (-100001)) hx hb hown hw1 dX9_has_8 ?_
    refine kM_i (As := [.int (-100001)]) (rest := []) (q0 := 0) ⟨hx, hb, hml, hown, hts⟩ (t_X9_finding l D cy a _ J (va_up I 10 (I 10)) O R RO LL Y ((-100001) : Int32)   ) (cwV 1 hts gX9_has_X9_finding rfl rfl rfl (by decide +kernel) ⟨Nat.le_of_ble_eq_true rfl, Nat.le_of_ble_eq_true rfl⟩) hK hN hP hD hS hA rfl rfl rfl hl.1 rfl (Nat.le_of_ble_eq_true rfl) dX9_has_10 ⟨Nat.le_of_ble_eq_true rfl, Nat.le_of_ble_eq_true rfl⟩ (fun r_2 u H locs hw hP hD hS => ?_)
    obtain ⟨w_3, rfl, rfl⟩ := hw
    have hP : va_P D vwCl (CT cy a J (va_up I 10 w_3) O R RO (LL ++ Y)) H := hP
    have hD : va_D A (CT cy a J (va_up I 10 w_3) O R RO (LL ++ Y)) := hD
    exact wret_i hx hb hr hlocks (J, (va_up I 10 w_3), O, R, RO, LL, Y) ⟨w_3, trivial, rfl⟩ hP hD hS dX9_has_13
theorem dX9_floor_0 : decode cX9_floor 0 = .ok (.iload_n 1, 1) := by decide +kernel
theorem dX9_floor_1 : decode cX9_floor 1 = .ok (.tableswitch 67 0 3 #[31, 39, 51, 59], 31) := by decide +kernel
theorem dX9_floor_32 : decode cX9_floor 32 = .ok (.aload_n 0, 1) := by decide +kernel
theorem dX9_floor_33 : decode cX9_floor 33 = .ok (.getfield 48, 3) := by decide +kernel
set_option maxRecDepth 20000 in
theorem ggX9_floor_J13_bitCount_95d88 : GoodIn wsX9_floor wsJ13_bitCount_95d88 := goodIn_r _ [7, 8, 9, 10] (by decide +kernel) (by decide +kernel)
set_option maxRecDepth 20000 in
theorem gX9_floor_J13_bitCount_95d88 : GoodIn wsX9_floor (va_wsS RX9 74 yJ13_bitCount_95d88 wsJ13_bitCount_95d88) := goodIn_app (goodIn_of _ (by decide +kernel)) ggX9_floor_J13_bitCount_95d88
theorem dX9_floor_36 : decode cX9_floor 36 = .ok (.invokestatic 74, 3) := by decide +kernel
theorem dX9_floor_39 : decode cX9_floor 39 = .ok (.ireturn, 1) := by decide +kernel
theorem dX9_floor_40 : decode cX9_floor 40 = .ok (.aload_n 0, 1) := by decide +kernel
theorem dX9_floor_41 : decode cX9_floor 41 = .ok (.getfield 48, 3) := by decide +kernel
theorem dX9_floor_44 : decode cX9_floor 44 = .ok (.ldc2_w 79, 3) := by decide +kernel
theorem dX9_floor_47 : decode cX9_floor 47 = .ok (.land, 1) := by decide +kernel
theorem dX9_floor_48 : decode cX9_floor 48 = .ok (.invokestatic 74, 3) := by decide +kernel
theorem dX9_floor_51 : decode cX9_floor 51 = .ok (.ireturn, 1) := by decide +kernel
theorem dX9_floor_52 : decode cX9_floor 52 = .ok (.aload_n 0, 1) := by decide +kernel
theorem dX9_floor_53 : decode cX9_floor 53 = .ok (.getfield 48, 3) := by decide +kernel
set_option maxRecDepth 20000 in
theorem ggX9_floor_X1_pieces : GoodIn wsX9_floor wsX1_pieces := goodIn_r _ [14, 15, 16, 17, 13, 18, 19, 20, 21, 22, 23, 24, 25, 26] (by decide +kernel) (by decide +kernel)
set_option maxRecDepth 20000 in
theorem gX9_floor_X1_pieces : GoodIn wsX9_floor (va_wsS RX9 81 yX1_pieces wsX1_pieces) := goodIn_app (goodIn_of _ (by decide +kernel)) ggX9_floor_X1_pieces
theorem dX9_floor_56 : decode cX9_floor 56 = .ok (.invokestatic 81, 3) := by decide +kernel
theorem dX9_floor_59 : decode cX9_floor 59 = .ok (.ireturn, 1) := by decide +kernel
theorem dX9_floor_60 : decode cX9_floor 60 = .ok (.aload_n 0, 1) := by decide +kernel
set_option maxRecDepth 20000 in
theorem ggX9_floor_X9_isWhole : GoodIn wsX9_floor wsX9_isWhole := goodIn_r _ [31, 1, 32, 33, 34, 30, 35, 36, 37, 38, 39, 40, 41, 42, 43, 44, 45, 46, 47, 48, 13, 49, 50, 15, 51, 12, 14, 16, 17, 18, 19, 20, 21, 22, 23, 24, 25, 26, 60, 61, 62, 63, 64, 65, 66, 67, 68, 69, 70, 71, 72, 73, 74, 75, 76, 77] (by decide +kernel) (by decide +kernel)
set_option maxRecDepth 20000 in
theorem gX9_floor_X9_isWhole : GoodIn wsX9_floor (wsV RX9 84 RX9 yX9_isWhole wsX9_isWhole) := goodIn_app (goodIn_of _ (by decide +kernel)) ggX9_floor_X9_isWhole
theorem dX9_floor_61 : decode cX9_floor 61 = .ok (.invokevirtual 84, 3) := by decide +kernel
set_option maxRecDepth 20000 in
theorem ggX9_floor_X9_asNumber : GoodIn wsX9_floor wsX9_asNumber := goodIn_r _ [54] (by decide +kernel) (by decide +kernel)
set_option maxRecDepth 20000 in
theorem gX9_floor_X9_asNumber : GoodIn wsX9_floor (va_wsS RX9 70 yX9_asNumber wsX9_asNumber) := goodIn_app (goodIn_of _ (by decide +kernel)) ggX9_floor_X9_asNumber
theorem dX9_floor_64 : decode cX9_floor 64 = .ok (.invokestatic 70, 3) := by decide +kernel
theorem dX9_floor_67 : decode cX9_floor 67 = .ok (.ireturn, 1) := by decide +kernel
theorem dX9_floor_68 : decode cX9_floor 68 = .ok (.aload_n 0, 1) := by decide +kernel
theorem dX9_floor_69 : decode cX9_floor 69 = .ok (.ldc 43, 2) := by decide +kernel
set_option maxRecDepth 20000 in
theorem ggX9_floor_X9_finding : GoodIn wsX9_floor wsX9_finding := goodIn_r _ [58, 59, 60, 61, 62, 63, 64, 65, 66, 67, 68, 69, 70] (by decide +kernel) (by decide +kernel)
set_option maxRecDepth 20000 in
theorem gX9_floor_X9_finding : GoodIn wsX9_floor (wsV RX9 44 RX9 yX9_finding wsX9_finding) := goodIn_app (goodIn_of _ (by decide +kernel)) ggX9_floor_X9_finding
theorem dX9_floor_71 : decode cX9_floor 71 = .ok (.invokevirtual 44, 3) := by decide +kernel
theorem dX9_floor_74 : decode cX9_floor 74 = .ok (.ireturn, 1) := by decide +kernel
set_option maxRecDepth 20000 in
theorem ihX9_floor_9 : ∀ w ∈ u_ws RX9 TX9 11, w ∈ wsX9_floor := by decide +kernel
set_option maxHeartbeats 4000000 in
set_option maxRecDepth 100000 in
theorem t_X9_floor (l : Launch) (D : va_G) (cy : Nat → ClassId) (a : Nat → Nat) (sz : Nat) (J : Nat → Int64) (I : Nat → Int32) (O : Nat → Option Nat) (R : Nat → Nat → Int32) (RO : Nat → Nat → Option Nat) (LL : va_W) (Y : va_W) (x0 : Int32) (hM : CI a Y I O RO) : Met l yX9_floor wsX9_floor ({ frames := 5, cells := 0, slots := 0, locals := 115 }) (va_Pc [.ref (a 0), .int x0] (PW D cy sz (CT cy a J I O R RO (LL ++ Y)))) (va_Qi (fun r (u : TS) => ∃ (w0 : Int32), (True) ∧ u = (J, (va_up I 10 w0), O, R, RO, LL, Y)) (BW D (va_A (CT cy a J I O R RO (LL ++ Y)) sz) (CTu cy a)) (va_A (CT cy a J I O R RO (LL ++ Y)) sz)) 0 0 (va_A (CT cy a J I O R RO (LL ++ Y)) sz) := by
  refine Met.ofW (cc := cX9_floor) (maxL := 2) (ret := (some .int)) (by decide) rfl ?_
  intro p e s m args below meth c s₁ B hml hv
  obtain ⟨rfl, rfl, hP, hK, hN, hD0⟩ := hv
  have hx := B.exec
  have hb := B.bytes
  have hr := B.returns
  have hts := atoms_spec (ws := wsX9_floor) B.pre
  have hown : s.vm.findClass RX9 = some m.cls := findClass_of_methodNamed B.named
  have hlocks := B.notSynchronized
  have hw0 := hts (.fieldLink RX9 48 "ParquetLayer" "fields" "J") (by decide +kernel)
  have hw1 := hts (.constantLong RX9 79 (-6172840429334713771)) (by decide +kernel)
  have hw2 := hts (.constant RX9 43 (-100001)) (by decide +kernel)
  have hi9 := ihX9_floor_9
  have hD := hD0.self (sz := s.heap.size)
  generalize hAe : va_A (CT cy a J I O R RO (LL ++ Y)) s.heap.size = A at hD ⊢
  have hA : ∀ q : Nat, s.heap.size ≤ q → A q := fun q h => by rw [← hAe]; exact Or.inr h
  have hS : va_S A s.heap s.heap [] := va_S.rf
  have hl := lv_entry ([.ref (a 0), .int x0]) (n := 2) (Nat.le_of_ble_eq_true rfl)
  rw [lg_entry_eq]
  generalize (lg_sl ([.ref (a 0), .int x0]) ++ List.replicate (2 - (lg_sl ([.ref (a 0), .int x0])).length) Slot.unset).toArray = ls at hl ⊢
  have hl : lv_has ls 2 [(0, .ref (a 0)), (1, .int x0)] := hl
  have hRO0 := hM.2.2.2.2.2.2.2.2.1
  have hRO1 := hM.2.2.2.2.2.2.2.2.2.1
  have hRO2 := hM.2.2.2.2.2.2.2.2.2.2.1
  have hRO3 := hM.2.2.2.2.2.2.2.2.2.2.2
  have hP : va_P D vwCl (CT cy a J (va_up I 10 (I 10)) O R RO (LL ++ Y)) s.heap := hP
  have hD : va_D A (CT cy a J (va_up I 10 (I 10)) O R RO (LL ++ Y)) := hD
  refine lv_iload_n hx hb dX9_floor_0 rfl (lv_at hl 1 rfl) ?_
  by_cases c_1 : x0 = 0
  · refine lv_tableIn (off := 31) (tgt := 32) hx hb dX9_floor_1 (by rw [c_1]; decide) (by rw [c_1]; decide) (by rw [c_1]; rfl) (by decide) ?_
    refine lv_aload_n hx hb dX9_floor_32 rfl (lv_at hl 0 rfl) ?_
    refine va_get (D := D) (ci := 8) (v := .long (J 6)) (C := RX9) (T := TX9) (N := 11) hx hb hts hi9 hown hK hP 0 rfl rfl 6 (by decide) hw0 (fun _ h9 => h9) rfl dX9_floor_33 ?_
    refine kS_i (As := [.long (J 6)]) (rest := []) ⟨hx, hb, hml, hown, hts⟩ (c_J13_bitCount_95d88 l (J 6)) (va_cwS 1 hts gX9_floor_J13_bitCount_95d88 rfl rfl rfl (by decide +kernel) ⟨Nat.le_of_ble_eq_true rfl, Nat.le_of_ble_eq_true rfl⟩) rfl hl.1 rfl (Nat.le_of_ble_eq_true rfl) dX9_floor_36 ⟨Nat.le_of_ble_eq_true rfl, Nat.le_of_ble_eq_true rfl⟩ ?_
    exact wret_i hx hb hr hlocks (J, (va_up I 10 (I 10)), O, R, RO, LL, Y) ⟨(I 10), trivial, rfl⟩ hP hD hS dX9_floor_39
  by_cases c_2 : x0 = 1
  · refine lv_tableIn (off := 39) (tgt := 40) hx hb dX9_floor_1 (by rw [c_2]; decide) (by rw [c_2]; decide) (by rw [c_2]; rfl) (by decide) ?_
    refine lv_aload_n hx hb dX9_floor_40 rfl (lv_at hl 0 rfl) ?_
    refine va_get (D := D) (ci := 8) (v := .long (J 6)) (C := RX9) (T := TX9) (N := 11) hx hb hts hi9 hown hK hP 0 rfl rfl 6 (by decide) hw0 (fun _ h9 => h9) rfl dX9_floor_41 ?_
    refine lv_ldc2 (v := (-6172840429334713771)) hx hb hown hw1 dX9_floor_44 ?_
    refine lv_land hx hb dX9_floor_47 ?_
    refine kS_i (As := [.long ((J 6) &&& (-6172840429334713771))]) (rest := []) ⟨hx, hb, hml, hown, hts⟩ (c_J13_bitCount_95d88 l ((J 6) &&& (-6172840429334713771))) (va_cwS 1 hts gX9_floor_J13_bitCount_95d88 rfl rfl rfl (by decide +kernel) ⟨Nat.le_of_ble_eq_true rfl, Nat.le_of_ble_eq_true rfl⟩) rfl hl.1 rfl (Nat.le_of_ble_eq_true rfl) dX9_floor_48 ⟨Nat.le_of_ble_eq_true rfl, Nat.le_of_ble_eq_true rfl⟩ ?_
    exact wret_i hx hb hr hlocks (J, (va_up I 10 (I 10)), O, R, RO, LL, Y) ⟨(I 10), trivial, rfl⟩ hP hD hS dX9_floor_51
  by_cases c_3 : x0 = 2
  · refine lv_tableIn (off := 51) (tgt := 52) hx hb dX9_floor_1 (by rw [c_3]; decide) (by rw [c_3]; decide) (by rw [c_3]; rfl) (by decide) ?_
    refine lv_aload_n hx hb dX9_floor_52 rfl (lv_at hl 0 rfl) ?_
    refine va_get (D := D) (ci := 8) (v := .long (J 6)) (C := RX9) (T := TX9) (N := 11) hx hb hts hi9 hown hK hP 0 rfl rfl 6 (by decide) hw0 (fun _ h9 => h9) rfl dX9_floor_53 ?_
    refine kSa_i (As := [.long (J 6)]) (rest := []) ⟨hx, hb, hml, hown, hts⟩ (t_X1_pieces l (J 6) ) (va_cwS 1 hts gX9_floor_X1_pieces rfl rfl rfl (by decide +kernel) ⟨Nat.le_of_ble_eq_true rfl, Nat.le_of_ble_eq_true rfl⟩) rfl hl.1 rfl (Nat.le_of_ble_eq_true rfl) dX9_floor_56 ⟨Nat.le_of_ble_eq_true rfl, Nat.le_of_ble_eq_true rfl⟩ (fun r_4 hr_5 => ?_)
    exact wret_i hx hb hr hlocks (J, (va_up I 10 (I 10)), O, R, RO, LL, Y) ⟨(I 10), trivial, rfl⟩ hP hD hS dX9_floor_59
  by_cases c_6 : x0 = 3
  · refine lv_tableIn (off := 59) (tgt := 60) hx hb dX9_floor_1 (by rw [c_6]; decide) (by rw [c_6]; decide) (by rw [c_6]; rfl) (by decide) ?_
    refine lv_aload_n hx hb dX9_floor_60 rfl (lv_at hl 0 rfl) ?_
    refine kRa_i (As := []) (rest := []) (q0 := 0) ⟨hx, hb, hml, hown, hts⟩ (t_X9_isWhole l D cy a _ J (va_up I 10 (I 10)) O R RO LL Y   ⟨hM.1, hM.2.1, hM.2.2.1, hM.2.2.2.1, hM.2.2.2.2.1, hM.2.2.2.2.2.1, hM.2.2.2.2.2.2.1, hM.2.2.2.2.2.2.2.1, hRO0, hRO1, hRO2, hRO3⟩) (cwV 0 hts gX9_floor_X9_isWhole rfl rfl rfl (by decide +kernel) ⟨Nat.le_of_ble_eq_true rfl, Nat.le_of_ble_eq_true rfl⟩) hK hN hP hD rfl rfl rfl hl.1 rfl (Nat.le_of_ble_eq_true rfl) dX9_floor_61 ⟨Nat.le_of_ble_eq_true rfl, Nat.le_of_ble_eq_true rfl⟩ (fun r_7 hr_8 => ?_)
    obtain ⟨zb_9, rfl⟩ := hr_8
    refine kS_i (As := [.int (bI zb_9)]) (rest := []) ⟨hx, hb, hml, hown, hts⟩ (c_X9_asNumber l zb_9) (va_cwS 1 hts gX9_floor_X9_asNumber rfl rfl rfl (by decide +kernel) ⟨Nat.le_of_ble_eq_true rfl, Nat.le_of_ble_eq_true rfl⟩) rfl hl.1 rfl (Nat.le_of_ble_eq_true rfl) dX9_floor_64 ⟨Nat.le_of_ble_eq_true rfl, Nat.le_of_ble_eq_true rfl⟩ ?_
    exact wret_i hx hb hr hlocks (J, (va_up I 10 (I 10)), O, R, RO, LL, Y) ⟨(I 10), trivial, rfl⟩ hP hD hS dX9_floor_67
  refine lv_tableOut (tgt := 68) hx hb dX9_floor_1 (sw_out 0 3 (by decide) (by decide) (fun k hk1 hk2 => by have hq : k = 0 ∨ k = 1 ∨ k = 2 ∨ k = 3 := (by omega); rcases hq with rfl | rfl | rfl | rfl <;> assumption)) (by decide) ?_
  refine lv_aload_n hx hb dX9_floor_68 rfl (lv_at hl 0 rfl) ?_
  refine lv_ldc (v := (-100001)) hx hb hown hw2 dX9_floor_69 ?_
  refine kM_i (As := [.int (-100001)]) (rest := []) (q0 := 0) ⟨hx, hb, hml, hown, hts⟩ (t_X9_finding l D cy a _ J (va_up I 10 (I 10)) O R RO LL Y ((-100001) : Int32)   ) (cwV 1 hts gX9_floor_X9_finding rfl rfl rfl (by decide +kernel) ⟨Nat.le_of_ble_eq_true rfl, Nat.le_of_ble_eq_true rfl⟩) hK hN hP hD hS hA rfl rfl rfl hl.1 rfl (Nat.le_of_ble_eq_true rfl) dX9_floor_71 ⟨Nat.le_of_ble_eq_true rfl, Nat.le_of_ble_eq_true rfl⟩ (fun r_10 u H locs hw hP hD hS => ?_)
  obtain ⟨w_11, rfl, rfl⟩ := hw
  have hP : va_P D vwCl (CT cy a J (va_up I 10 w_11) O R RO (LL ++ Y)) H := hP
  have hD : va_D A (CT cy a J (va_up I 10 w_11) O R RO (LL ++ Y)) := hD
  exact wret_i hx hb hr hlocks (J, (va_up I 10 w_11), O, R, RO, LL, Y) ⟨w_11, trivial, rfl⟩ hP hD hS dX9_floor_74
theorem dX9_stone_0 : decode cX9_stone 0 = .ok (.iload_n 1, 1) := by decide +kernel
set_option maxRecDepth 20000 in
theorem ggX9_stone_X9_isKind : GoodIn wsX9_stone wsX9_isKind := goodIn_r _ [16] (by decide +kernel) (by decide +kernel)
set_option maxRecDepth 20000 in
theorem gX9_stone_X9_isKind : GoodIn wsX9_stone (va_wsS RX9 88 yX9_isKind wsX9_isKind) := goodIn_app (goodIn_of _ (by decide +kernel)) ggX9_stone_X9_isKind
theorem dX9_stone_1 : decode cX9_stone 1 = .ok (.invokestatic 88, 3) := by decide +kernel
theorem dX9_stone_4 : decode cX9_stone 4 = .ok (.ifCond .eq 19, 3) := by decide +kernel
theorem dX9_stone_23 : decode cX9_stone 23 = .ok (.aload_n 0, 1) := by decide +kernel
theorem dX9_stone_24 : decode cX9_stone 24 = .ok (.ldc 43, 2) := by decide +kernel
set_option maxRecDepth 20000 in
theorem ggX9_stone_X9_finding : GoodIn wsX9_stone wsX9_finding := goodIn_r _ [27, 28, 100, 101, 102, 103, 104, 105, 106, 107, 108, 109, 110] (by decide +kernel) (by decide +kernel)
set_option maxRecDepth 20000 in
theorem gX9_stone_X9_finding : GoodIn wsX9_stone (wsV RX9 44 RX9 yX9_finding wsX9_finding) := goodIn_app (goodIn_of _ (by decide +kernel)) ggX9_stone_X9_finding
theorem dX9_stone_26 : decode cX9_stone 26 = .ok (.invokevirtual 44, 3) := by decide +kernel
theorem dX9_stone_29 : decode cX9_stone 29 = .ok (.ireturn, 1) := by decide +kernel
theorem dX9_stone_7 : decode cX9_stone 7 = .ok (.iload_n 2, 1) := by decide +kernel
set_option maxRecDepth 20000 in
theorem ggX9_stone_X1_isField : GoodIn wsX9_stone wsX1_isField := goodIn_r _ [20] (by decide +kernel) (by decide +kernel)
set_option maxRecDepth 20000 in
theorem gX9_stone_X1_isField : GoodIn wsX9_stone (va_wsS RX9 60 yX1_isField wsX1_isField) := goodIn_app (goodIn_of _ (by decide +kernel)) ggX9_stone_X1_isField
theorem dX9_stone_8 : decode cX9_stone 8 = .ok (.invokestatic 60, 3) := by decide +kernel
theorem dX9_stone_11 : decode cX9_stone 11 = .ok (.ifCond .eq 12, 3) := by decide +kernel
theorem dX9_stone_14 : decode cX9_stone 14 = .ok (.iload_n 1, 1) := by decide +kernel
theorem dX9_stone_15 : decode cX9_stone 15 = .ok (.iload 4, 2) := by decide +kernel
set_option maxRecDepth 20000 in
theorem ggX9_stone_X9_fitsColour : GoodIn wsX9_stone wsX9_fitsColour := goodIn_r _ [23] (by decide +kernel) (by decide +kernel)
set_option maxRecDepth 20000 in
theorem gX9_stone_X9_fitsColour : GoodIn wsX9_stone (va_wsS RX9 91 yX9_fitsColour wsX9_fitsColour) := goodIn_app (goodIn_of _ (by decide +kernel)) ggX9_stone_X9_fitsColour
theorem dX9_stone_17 : decode cX9_stone 17 = .ok (.invokestatic 91, 3) := by decide +kernel
theorem dX9_stone_20 : decode cX9_stone 20 = .ok (.ifCond .ne 10, 3) := by decide +kernel
theorem dX9_stone_30 : decode cX9_stone 30 = .ok (.aload_n 0, 1) := by decide +kernel
theorem dX9_stone_31 : decode cX9_stone 31 = .ok (.iload_n 2, 1) := by decide +kernel
theorem dX9_stone_32 : decode cX9_stone 32 = .ok (.iload_n 3, 1) := by decide +kernel
set_option maxRecDepth 20000 in
theorem ggX9_stone_X9_isPlace : GoodIn wsX9_stone wsX9_isPlace := goodIn_r _ [32, 9, 33, 34, 35, 19, 36, 100, 101, 102, 103, 104, 105, 106, 107, 108, 109, 110] (by decide +kernel) (by decide +kernel)
set_option maxRecDepth 20000 in
theorem gX9_stone_X9_isPlace : GoodIn wsX9_stone (wsV RX9 95 RX9 yX9_isPlace wsX9_isPlace) := goodIn_app (goodIn_of _ (by decide +kernel)) ggX9_stone_X9_isPlace
theorem dX9_stone_33 : decode cX9_stone 33 = .ok (.invokevirtual 95, 3) := by decide +kernel
theorem dX9_stone_36 : decode cX9_stone 36 = .ok (.ifCond .ne 10, 3) := by decide +kernel
theorem dX9_stone_46 : decode cX9_stone 46 = .ok (.aload_n 0, 1) := by decide +kernel
set_option maxRecDepth 20000 in
theorem ggX9_stone_X9_stoneCount : GoodIn wsX9_stone wsX9_stoneCount := goodIn_r _ [40, 6, 41, 100, 101, 102, 103, 104, 105, 106, 107, 108, 109, 110, 93, 94, 95, 96, 97, 98, 99] (by decide +kernel) (by decide +kernel)
set_option maxRecDepth 20000 in
theorem gX9_stone_X9_stoneCount : GoodIn wsX9_stone (wsV RX9 100 RX9 yX9_stoneCount wsX9_stoneCount) := goodIn_app (goodIn_of _ (by decide +kernel)) ggX9_stone_X9_stoneCount
theorem dX9_stone_47 : decode cX9_stone 47 = .ok (.invokevirtual 100, 3) := by decide +kernel
theorem dX9_stone_50 : decode cX9_stone 50 = .ok (.istore 5, 2) := by decide +kernel
theorem dX9_stone_52 : decode cX9_stone 52 = .ok (.new 104, 3) := by decide +kernel
theorem dX9_stone_55 : decode cX9_stone 55 = .ok (.dup, 1) := by decide +kernel
theorem dX9_stone_56 : decode cX9_stone 56 = .ok (.aload_n 0, 1) := by decide +kernel
theorem dX9_stone_57 : decode cX9_stone 57 = .ok (.getfield 106, 3) := by decide +kernel
theorem dX9_stone_60 : decode cX9_stone 60 = .ok (.iload 5, 2) := by decide +kernel
theorem dX9_stone_62 : decode cX9_stone 62 = .ok (.iload_n 1, 1) := by decide +kernel
theorem dX9_stone_63 : decode cX9_stone 63 = .ok (.iload_n 2, 1) := by decide +kernel
theorem dX9_stone_64 : decode cX9_stone 64 = .ok (.iload_n 3, 1) := by decide +kernel
theorem dX9_stone_65 : decode cX9_stone 65 = .ok (.iload 4, 2) := by decide +kernel
set_option maxRecDepth 20000 in
theorem ggX9_stone_X7_init : GoodIn wsX9_stone wsX7_init := goodIn_r _ [44, 45, 46, 47, 48, 49, 50, 51, 52, 53, 54, 55, 35, 19, 36, 93, 94, 95, 96, 97, 98, 99] (by decide +kernel) (by decide +kernel)
set_option maxRecDepth 20000 in
theorem gX9_stone_X7_init : GoodIn wsX9_stone (wsX7_init) := ggX9_stone_X7_init
theorem dX9_stone_67 : decode cX9_stone 67 = .ok (.invokespecial 110, 3) := by decide +kernel
theorem dX9_stone_70 : decode cX9_stone 70 = .ok (.astore 6, 2) := by decide +kernel
theorem dX9_stone_72 : decode cX9_stone 72 = .ok (.aload 6, 2) := by decide +kernel
set_option maxRecDepth 20000 in
theorem ggX9_stone_X7_isGlued : GoodIn wsX9_stone wsX7_isGlued := goodIn_r _ [59, 50, 60, 15, 61, 93, 94, 95, 96, 97, 98, 99] (by decide +kernel) (by decide +kernel)
set_option maxRecDepth 20000 in
theorem gX9_stone_X7_isGlued : GoodIn wsX9_stone (wsV RX9 113 RX7 yX7_isGlued wsX7_isGlued) := goodIn_app (goodIn_of _ (by decide +kernel)) ggX9_stone_X7_isGlued
theorem dX9_stone_74 : decode cX9_stone 74 = .ok (.invokevirtual 113, 3) := by decide +kernel
theorem dX9_stone_77 : decode cX9_stone 77 = .ok (.ifCond .eq 25, 3) := by decide +kernel
theorem dX9_stone_102 : decode cX9_stone 102 = .ok (.iload_n 1, 1) := by decide +kernel
theorem dX9_stone_103 : decode cX9_stone 103 = .ok (.iconst 3, 1) := by decide +kernel
theorem dX9_stone_104 : decode cX9_stone 104 = .ok (.if_icmp .ne 25, 3) := by decide +kernel
theorem dX9_stone_129 : decode cX9_stone 129 = .ok (.iload 5, 2) := by decide +kernel
theorem dX9_stone_131 : decode cX9_stone 131 = .ok (.bipush 20, 2) := by decide +kernel
theorem dX9_stone_133 : decode cX9_stone 133 = .ok (.if_icmp .lt 10, 3) := by decide +kernel
theorem dX9_stone_143 : decode cX9_stone 143 = .ok (.aload_n 0, 1) := by decide +kernel
set_option maxRecDepth 20000 in
theorem ggX9_stone_X9_keepPast : GoodIn wsX9_stone wsX9_keepPast := goodIn_r _ [80, 81, 82, 83, 84, 85, 9, 6, 12, 86, 87, 88, 89, 46, 47, 90, 91, 92, 100, 101, 102, 103, 104, 105, 106, 107, 108, 109, 110, 111, 112, 113] (by decide +kernel) (by decide +kernel)
set_option maxRecDepth 20000 in
theorem gX9_stone_X9_keepPast : GoodIn wsX9_stone (wsV RX9 130 RX9 yX9_keepPast wsX9_keepPast) := goodIn_app (goodIn_of _ (by decide +kernel)) ggX9_stone_X9_keepPast
theorem dX9_stone_144 : decode cX9_stone 144 = .ok (.invokevirtual 130, 3) := by decide +kernel
theorem dX9_stone_147 : decode cX9_stone 147 = .ok (.aload_n 0, 1) := by decide +kernel
theorem dX9_stone_148 : decode cX9_stone 148 = .ok (.aload 6, 2) := by decide +kernel
theorem dX9_stone_150 : decode cX9_stone 150 = .ok (.putfield 106, 3) := by decide +kernel
theorem dX9_stone_153 : decode cX9_stone 153 = .ok (.aload_n 0, 1) := by decide +kernel
theorem dX9_stone_154 : decode cX9_stone 154 = .ok (.aconst_null, 1) := by decide +kernel
theorem dX9_stone_155 : decode cX9_stone 155 = .ok (.putfield 133, 3) := by decide +kernel
theorem dX9_stone_158 : decode cX9_stone 158 = .ok (.iload 5, 2) := by decide +kernel
theorem dX9_stone_160 : decode cX9_stone 160 = .ok (.ireturn, 1) := by decide +kernel
theorem dX9_stone_136 : decode cX9_stone 136 = .ok (.aload_n 0, 1) := by decide +kernel
theorem dX9_stone_137 : decode cX9_stone 137 = .ok (.ldc 129, 2) := by decide +kernel
theorem dX9_stone_139 : decode cX9_stone 139 = .ok (.invokevirtual 44, 3) := by decide +kernel
theorem dX9_stone_142 : decode cX9_stone 142 = .ok (.ireturn, 1) := by decide +kernel
theorem dX9_stone_107 : decode cX9_stone 107 = .ok (.aload 6, 2) := by decide +kernel
theorem dX9_stone_109 : decode cX9_stone 109 = .ok (.getfield 116, 3) := by decide +kernel
theorem dX9_stone_112 : decode cX9_stone 112 = .ok (.aload_n 0, 1) := by decide +kernel
theorem dX9_stone_113 : decode cX9_stone 113 = .ok (.getfield 48, 3) := by decide +kernel
set_option maxRecDepth 20000 in
theorem ggX9_stone_X1_touchesOutside : GoodIn wsX9_stone wsX1_touchesOutside := goodIn_r _ [69, 70, 71, 72, 73, 19, 74, 75, 76] (by decide +kernel) (by decide +kernel)
set_option maxRecDepth 20000 in
theorem gX9_stone_X1_touchesOutside : GoodIn wsX9_stone (va_wsS RX9 124 yX1_touchesOutside wsX1_touchesOutside) := goodIn_app (goodIn_of _ (by decide +kernel)) ggX9_stone_X1_touchesOutside
theorem dX9_stone_116 : decode cX9_stone 116 = .ok (.invokestatic 124, 3) := by decide +kernel
theorem dX9_stone_119 : decode cX9_stone 119 = .ok (.ifCond .ne 10, 3) := by decide +kernel
theorem dX9_stone_122 : decode cX9_stone 122 = .ok (.aload_n 0, 1) := by decide +kernel
theorem dX9_stone_123 : decode cX9_stone 123 = .ok (.ldc 128, 2) := by decide +kernel
theorem dX9_stone_125 : decode cX9_stone 125 = .ok (.invokevirtual 44, 3) := by decide +kernel
theorem dX9_stone_128 : decode cX9_stone 128 = .ok (.ireturn, 1) := by decide +kernel
theorem dX9_stone_80 : decode cX9_stone 80 = .ok (.aload 6, 2) := by decide +kernel
theorem dX9_stone_82 : decode cX9_stone 82 = .ok (.getfield 116, 3) := by decide +kernel
theorem dX9_stone_85 : decode cX9_stone 85 = .ok (.aload_n 0, 1) := by decide +kernel
set_option maxRecDepth 20000 in
theorem ggX9_stone_X9_gluedFields : GoodIn wsX9_stone wsX9_gluedFields := goodIn_r _ [65, 6, 7, 66, 56, 57, 58, 5, 59, 50, 60, 15, 61, 100, 101, 102, 103, 104, 105, 106, 107, 108, 109, 110, 93, 94, 95, 96, 97, 98, 99] (by decide +kernel) (by decide +kernel)
set_option maxRecDepth 20000 in
theorem gX9_stone_X9_gluedFields : GoodIn wsX9_stone (wsV RX9 119 RX9 yX9_gluedFields wsX9_gluedFields) := goodIn_app (goodIn_of _ (by decide +kernel)) ggX9_stone_X9_gluedFields
theorem dX9_stone_86 : decode cX9_stone 86 = .ok (.invokevirtual 119, 3) := by decide +kernel
theorem dX9_stone_89 : decode cX9_stone 89 = .ok (.land, 1) := by decide +kernel
theorem dX9_stone_90 : decode cX9_stone 90 = .ok (.lconst 0, 1) := by decide +kernel
theorem dX9_stone_91 : decode cX9_stone 91 = .ok (.lcmp, 1) := by decide +kernel
theorem dX9_stone_92 : decode cX9_stone 92 = .ok (.ifCond .eq 10, 3) := by decide +kernel
theorem dX9_stone_95 : decode cX9_stone 95 = .ok (.aload_n 0, 1) := by decide +kernel
theorem dX9_stone_96 : decode cX9_stone 96 = .ok (.ldc 123, 2) := by decide +kernel
theorem dX9_stone_98 : decode cX9_stone 98 = .ok (.invokevirtual 44, 3) := by decide +kernel
theorem dX9_stone_101 : decode cX9_stone 101 = .ok (.ireturn, 1) := by decide +kernel
theorem dX9_stone_39 : decode cX9_stone 39 = .ok (.aload_n 0, 1) := by decide +kernel
theorem dX9_stone_40 : decode cX9_stone 40 = .ok (.ldc 99, 2) := by decide +kernel
theorem dX9_stone_42 : decode cX9_stone 42 = .ok (.invokevirtual 44, 3) := by decide +kernel
theorem dX9_stone_45 : decode cX9_stone 45 = .ok (.ireturn, 1) := by decide +kernel
set_option maxRecDepth 20000 in
theorem ihX9_stone_7 : ∀ w ∈ u_ws RX7 TX7 7, w ∈ wsX9_stone := by decide +kernel
set_option maxRecDepth 20000 in
theorem ihX9_stone_9 : ∀ w ∈ u_ws RX9 TX9 11, w ∈ wsX9_stone := by decide +kernel
set_option maxHeartbeats 4000000 in
set_option maxRecDepth 100000 in
theorem t_X9_stone (l : Launch) (D : va_G) (cy : Nat → ClassId) (a : Nat → Nat) (sz : Nat) (J : Nat → Int64) (I : Nat → Int32) (O : Nat → Option Nat) (R : Nat → Nat → Int32) (RO : Nat → Nat → Option Nat) (LL : va_W) (Y : va_W) (x0 : Int32) (x1 : Int32) (x2 : Bool) (x3 : Int32) (hM : CI a Y I O RO) : Met l yX9_stone wsX9_stone ({ frames := 3, cells := 2, slots := 10, locals := 65 }) (va_Pc [.ref (a 0), .int x0, .int x1, .int (bI x2), .int x3] (PW D cy sz (CT cy a J I O R RO (LL ++ Y)))) (va_Qi (fun r (u : TS) => ∃ (w0 : Int32), ∃ (w1 : Int32), ∃ (w2 : Option Nat), ∃ (w3 : Option Nat), ∃ (w4 : Nat → Option Nat), ∃ (Y9 : va_W), ((vp_in w0 21) ∧ (chO Y9 w2) ∧ (layO Y9 w3) ∧ (∀ i, i < 20 → pasO Y9 (w4 i)) ∧ (∀ c, c ∈ Y → c ∈ Y9)) ∧ u = (J, (va_up (va_up I 9 w0) 10 w1), (va_up (va_up O 7 w2) 8 w3), R, (va_up RO 2 w4), LL, Y9)) (BW D (va_A (CT cy a J I O R RO (LL ++ Y)) sz) (CTu cy a)) (va_A (CT cy a J I O R RO (LL ++ Y)) sz)) 2 10 (va_A (CT cy a J I O R RO (LL ++ Y)) sz) := by
  refine Met.ofW (cc := cX9_stone) (maxL := 7) (ret := (some .int)) (by decide) rfl ?_
  intro p e s m args below meth c s₁ B hml hv
  obtain ⟨rfl, rfl, hP, hK, hN, hD0⟩ := hv
  have hx := B.exec
  have hb := B.bytes
  have hr := B.returns
  have hts := atoms_spec (ws := wsX9_stone) B.pre
  have hown : s.vm.findClass RX9 = some m.cls := findClass_of_methodNamed B.named
  have hlocks := B.notSynchronized
  have hw0 := hts (.constant RX9 43 (-100001)) (by decide +kernel)
  have hw1 := hts (.classLink RX9 104 RX7) (by decide +kernel)
  have hw2 := hts (.instantiable RX7 7) (by decide +kernel)
  have hw3 := hts (.initialized RX7) (by decide +kernel)
  have hw4 := hts (.fieldLink RX9 106 "ParquetLayer" "latest" "LParquetLayer$Stone;") (by decide +kernel)
  have hw5 := hts (.instanceMethod yX7_init) (by decide +kernel)
  have hw6 := hts (.methodLink RX9 110 yX7_init) (by decide +kernel)
  have hw7 := hts (.fieldLink RX9 133 "ParquetLayer" "hand" "LParquetLayer$Laying;") (by decide +kernel)
  have hw8 := hts (.constant RX9 129 (-100005)) (by decide +kernel)
  have hw9 := hts (.fieldLink RX9 116 "ParquetLayer$Stone" "cover" "J") (by decide +kernel)
  have hw10 := hts (.fieldLink RX9 48 "ParquetLayer" "fields" "J") (by decide +kernel)
  have hw11 := hts (.constant RX9 128 (-100004)) (by decide +kernel)
  have hw12 := hts (.constant RX9 123 (-100007)) (by decide +kernel)
  have hw13 := hts (.constant RX9 99 (-100003)) (by decide +kernel)
  have hi7 := ihX9_stone_7
  have hi9 := ihX9_stone_9
  have hD := hD0.self (sz := s.heap.size)
  generalize hAe : va_A (CT cy a J I O R RO (LL ++ Y)) s.heap.size = A at hD ⊢
  have hA : ∀ q : Nat, s.heap.size ≤ q → A q := fun q h => by rw [← hAe]; exact Or.inr h
  have hS : va_S A s.heap s.heap [] := va_S.rf
  have hl := lv_entry ([.ref (a 0), .int x0, .int x1, .int (bI x2), .int x3]) (n := 7) (Nat.le_of_ble_eq_true rfl)
  rw [lg_entry_eq]
  generalize (lg_sl ([.ref (a 0), .int x0, .int x1, .int (bI x2), .int x3]) ++ List.replicate (7 - (lg_sl ([.ref (a 0), .int x0, .int x1, .int (bI x2), .int x3])).length) Slot.unset).toArray = ls at hl ⊢
  have hl : lv_has ls 7 [(0, .ref (a 0)), (1, .int x0), (2, .int x1), (3, .int (bI x2)), (4, .int x3)] := hl
  have hRO0 := hM.2.2.2.2.2.2.2.2.1
  have hRO1 := hM.2.2.2.2.2.2.2.2.2.1
  have hRO2 := hM.2.2.2.2.2.2.2.2.2.2.1
  have hRO3 := hM.2.2.2.2.2.2.2.2.2.2.2
  have hP : va_P D vwCl (CT cy a J (va_up (va_up I 9 (I 9)) 10 (I 10)) (va_up (va_up O 7 (O 7)) 8 (O 8)) R (va_up RO 2 (RO 2)) (LL ++ Y)) s.heap := hP
  have hD : va_D A (CT cy a J (va_up (va_up I 9 (I 9)) 10 (I 10)) (va_up (va_up O 7 (O 7)) 8 (O 8)) R (va_up RO 2 (RO 2)) (LL ++ Y)) := hD
  refine lv_iload_n hx hb dX9_stone_0 rfl (lv_at hl 1 rfl) ?_
  refine kS_i (As := [.int x0]) (rest := []) ⟨hx, hb, hml, hown, hts⟩ (c_X9_isKind l x0) (va_cwS 1 hts gX9_stone_X9_isKind rfl rfl rfl (by decide +kernel) ⟨Nat.le_of_ble_eq_true rfl, Nat.le_of_ble_eq_true rfl⟩) rfl hl.1 rfl (Nat.le_of_ble_eq_true rfl) dX9_stone_1 ⟨Nat.le_of_ble_eq_true rfl, Nat.le_of_ble_eq_true rfl⟩ ?_
  refine lv_if_eq (tgt := 23) hx hb dX9_stone_4 (by decide) (fun c_1 => ?_) (fun c_1 => ?_)
  · replace c_1 := bI_f c_1
    refine lv_aload_n hx hb dX9_stone_23 rfl (lv_at hl 0 rfl) ?_
    refine lv_ldc (v := (-100001)) hx hb hown hw0 dX9_stone_24 ?_
    refine kM_i (As := [.int (-100001)]) (rest := []) (q0 := 0) ⟨hx, hb, hml, hown, hts⟩ (t_X9_finding l D cy a _ J (va_up (va_up I 9 (I 9)) 10 (I 10)) (va_up (va_up O 7 (O 7)) 8 (O 8)) R (va_up RO 2 (RO 2)) LL Y ((-100001) : Int32)   ) (cwV 1 hts gX9_stone_X9_finding rfl rfl rfl (by decide +kernel) ⟨Nat.le_of_ble_eq_true rfl, Nat.le_of_ble_eq_true rfl⟩) hK hN hP hD hS hA rfl rfl rfl hl.1 rfl (Nat.le_of_ble_eq_true rfl) dX9_stone_26 ⟨Nat.le_of_ble_eq_true rfl, Nat.le_of_ble_eq_true rfl⟩ (fun r_2 u H locs hw hP hD hS => ?_)
    obtain ⟨w_3, rfl, rfl⟩ := hw
    have hP : va_P D vwCl (CT cy a J (va_up (va_up I 9 (I 9)) 10 w_3) (va_up (va_up O 7 (O 7)) 8 (O 8)) R (va_up RO 2 (RO 2)) (LL ++ Y)) H := hP
    have hD : va_D A (CT cy a J (va_up (va_up I 9 (I 9)) 10 w_3) (va_up (va_up O 7 (O 7)) 8 (O 8)) R (va_up RO 2 (RO 2)) (LL ++ Y)) := hD
    refine W.widen (k := 2) (n := 10) (Nat.le_of_ble_eq_true rfl) (Nat.le_of_ble_eq_true rfl) ?_
    exact wret_i hx hb hr hlocks (J, (va_up (va_up I 9 (I 9)) 10 w_3), (va_up (va_up O 7 (O 7)) 8 (O 8)), R, (va_up RO 2 (RO 2)), LL, Y) ⟨(I 9), w_3, (O 7), (O 8), (RO 2), Y, ⟨hM.1, hM.2.1, hM.2.2.1, hM.2.2.2.1, (fun _ h => h)⟩, rfl⟩ hP hD hS dX9_stone_29
  · replace c_1 := bI_t c_1
    refine lv_iload_n hx hb dX9_stone_7 rfl (lv_at hl 2 rfl) ?_
    refine kS_i (As := [.int x1]) (rest := []) ⟨hx, hb, hml, hown, hts⟩ (c_X1_isField l x1) (va_cwS 1 hts gX9_stone_X1_isField rfl rfl rfl (by decide +kernel) ⟨Nat.le_of_ble_eq_true rfl, Nat.le_of_ble_eq_true rfl⟩) rfl hl.1 rfl (Nat.le_of_ble_eq_true rfl) dX9_stone_8 ⟨Nat.le_of_ble_eq_true rfl, Nat.le_of_ble_eq_true rfl⟩ ?_
    refine lv_if_eq (tgt := 23) hx hb dX9_stone_11 (by decide) (fun c_4 => ?_) (fun c_4 => ?_)
    · replace c_4 := bI_f c_4
      refine lv_aload_n hx hb dX9_stone_23 rfl (lv_at hl 0 rfl) ?_
      refine lv_ldc (v := (-100001)) hx hb hown hw0 dX9_stone_24 ?_
      refine kM_i (As := [.int (-100001)]) (rest := []) (q0 := 0) ⟨hx, hb, hml, hown, hts⟩ (t_X9_finding l D cy a _ J (va_up (va_up I 9 (I 9)) 10 (I 10)) (va_up (va_up O 7 (O 7)) 8 (O 8)) R (va_up RO 2 (RO 2)) LL Y ((-100001) : Int32)   ) (cwV 1 hts gX9_stone_X9_finding rfl rfl rfl (by decide +kernel) ⟨Nat.le_of_ble_eq_true rfl, Nat.le_of_ble_eq_true rfl⟩) hK hN hP hD hS hA rfl rfl rfl hl.1 rfl (Nat.le_of_ble_eq_true rfl) dX9_stone_26 ⟨Nat.le_of_ble_eq_true rfl, Nat.le_of_ble_eq_true rfl⟩ (fun r_5 u H locs hw hP hD hS => ?_)
      obtain ⟨w_6, rfl, rfl⟩ := hw
      have hP : va_P D vwCl (CT cy a J (va_up (va_up I 9 (I 9)) 10 w_6) (va_up (va_up O 7 (O 7)) 8 (O 8)) R (va_up RO 2 (RO 2)) (LL ++ Y)) H := hP
      have hD : va_D A (CT cy a J (va_up (va_up I 9 (I 9)) 10 w_6) (va_up (va_up O 7 (O 7)) 8 (O 8)) R (va_up RO 2 (RO 2)) (LL ++ Y)) := hD
      refine W.widen (k := 2) (n := 10) (Nat.le_of_ble_eq_true rfl) (Nat.le_of_ble_eq_true rfl) ?_
      exact wret_i hx hb hr hlocks (J, (va_up (va_up I 9 (I 9)) 10 w_6), (va_up (va_up O 7 (O 7)) 8 (O 8)), R, (va_up RO 2 (RO 2)), LL, Y) ⟨(I 9), w_6, (O 7), (O 8), (RO 2), Y, ⟨hM.1, hM.2.1, hM.2.2.1, hM.2.2.2.1, (fun _ h => h)⟩, rfl⟩ hP hD hS dX9_stone_29
    · replace c_4 := bI_t c_4
      refine lv_iload_n hx hb dX9_stone_14 rfl (lv_at hl 1 rfl) ?_
      refine lv_iload hx hb dX9_stone_15 (lv_at hl 4 rfl) ?_
      refine kS_i (As := [.int x0, .int x3]) (rest := []) ⟨hx, hb, hml, hown, hts⟩ (c_X9_fitsColour l x0 x3) (va_cwS 2 hts gX9_stone_X9_fitsColour rfl rfl rfl (by decide +kernel) ⟨Nat.le_of_ble_eq_true rfl, Nat.le_of_ble_eq_true rfl⟩) rfl hl.1 rfl (Nat.le_of_ble_eq_true rfl) dX9_stone_17 ⟨Nat.le_of_ble_eq_true rfl, Nat.le_of_ble_eq_true rfl⟩ ?_
      refine lv_if_ne (tgt := 30) hx hb dX9_stone_20 (by decide) (fun c_7 => ?_) (fun c_7 => ?_)
      · replace c_7 := bI_t c_7
        refine lv_aload_n hx hb dX9_stone_30 rfl (lv_at hl 0 rfl) ?_
        refine lv_iload_n hx hb dX9_stone_31 rfl (lv_at hl 2 rfl) ?_
        refine lv_iload_n hx hb dX9_stone_32 rfl (lv_at hl 3 rfl) ?_
        refine kRa_i (As := [.int x1, .int (bI x2)]) (rest := []) (q0 := 0) ⟨hx, hb, hml, hown, hts⟩ (t_X9_isPlace l D cy a _ J (va_up (va_up I 9 (I 9)) 10 (I 10)) (va_up (va_up O 7 (O 7)) 8 (O 8)) R (va_up RO 2 (RO 2)) LL Y x1 x2  ) (cwV 2 hts gX9_stone_X9_isPlace rfl rfl rfl (by decide +kernel) ⟨Nat.le_of_ble_eq_true rfl, Nat.le_of_ble_eq_true rfl⟩) hK hN hP hD rfl rfl rfl hl.1 rfl (Nat.le_of_ble_eq_true rfl) dX9_stone_33 ⟨Nat.le_of_ble_eq_true rfl, Nat.le_of_ble_eq_true rfl⟩ (fun r_8 hr_9 => ?_)
        obtain ⟨zb_10, rfl⟩ := hr_9
        refine lv_if_ne (tgt := 46) hx hb dX9_stone_36 (by decide) (fun c_11 => ?_) (fun c_11 => ?_)
        · replace c_11 := bI_t c_11
          refine lv_aload_n hx hb dX9_stone_46 rfl (lv_at hl 0 rfl) ?_
          refine kRa_i (As := []) (rest := []) (q0 := 0) ⟨hx, hb, hml, hown, hts⟩ (t_X9_stoneCount l D cy a _ J (va_up (va_up I 9 (I 9)) 10 (I 10)) (va_up (va_up O 7 (O 7)) 8 (O 8)) R (va_up RO 2 (RO 2)) LL Y   ⟨hM.1, hM.2.1, hM.2.2.1, hM.2.2.2.1, hM.2.2.2.2.1, hM.2.2.2.2.2.1, hM.2.2.2.2.2.2.1, hM.2.2.2.2.2.2.2.1, hRO0, hRO1, hRO2, hRO3⟩) (cwV 0 hts gX9_stone_X9_stoneCount rfl rfl rfl (by decide +kernel) ⟨Nat.le_of_ble_eq_true rfl, Nat.le_of_ble_eq_true rfl⟩) hK hN hP hD rfl rfl rfl hl.1 rfl (Nat.le_of_ble_eq_true rfl) dX9_stone_47 ⟨Nat.le_of_ble_eq_true rfl, Nat.le_of_ble_eq_true rfl⟩ (fun r_12 hr_13 => ?_)
          obtain ⟨n9, rfl, hch9⟩ := hr_13
          refine lv_istore (lv' := [(5, .int (nI n9)), (0, .ref (a 0)), (1, .int x0), (2, .int x1), (3, .int (bI x2)), (4, .int x3)]) hx hb dX9_stone_50 hl (by decide) rfl (fun ls hl => ?_)
          refine va_new (ci := 6) (fs := [.null, .int 0, .int 0, .int 0, .int 0, .int 0, .long 0]) (C := RX7) (T := TX7) (N := 7) hx hb hts hi7 tyX7 tyX7_ok hown hw1 hw2 hw3 hK hP hD hS hA rfl (fun j hj => by rcases (show j = 0 ∨ j = 1 ∨ j = 2 ∨ j = 3 ∨ j = 4 ∨ j = 5 ∨ j = 6 by omega) with rfl | rfl | rfl | rfl | rfl | rfl | rfl <;> rfl) (Nat.le_of_ble_eq_true rfl) (Nat.le_of_ble_eq_true rfl) dX9_stone_52 (fun q_14 H hP hD hS => ?_)
          have hP : va_P D vwCl (CT cy a J (va_up (va_up I 9 (I 9)) 10 (I 10)) (va_up (va_up O 7 (O 7)) 8 (O 8)) R (va_up RO 2 (RO 2)) (LL ++ Y) ++ [(q_14, .inr (6, [.null, .int 0, .int 0, .int 0, .int 0, .int 0, .long 0]))]) H := hP
          have hD : va_D A (CT cy a J (va_up (va_up I 9 (I 9)) 10 (I 10)) (va_up (va_up O 7 (O 7)) 8 (O 8)) R (va_up RO 2 (RO 2)) (LL ++ Y) ++ [(q_14, .inr (6, [.null, .int 0, .int 0, .int 0, .int 0, .int 0, .long 0]))]) := hD
          refine lv_dup hx hb dX9_stone_55 rfl ?_
          refine lv_aload_n hx hb dX9_stone_56 rfl (lv_at hl 1 rfl) ?_
          refine va_get (D := D) (ci := 8) (v := va_rf (O 7)) (C := RX9) (T := TX9) (N := 11) hx hb hts hi9 hown hK hP 0 rfl rfl 7 (by decide) hw4 (fun _ h9 => h9) rfl dX9_stone_57 ?_
          refine lv_iload hx hb dX9_stone_60 (lv_at hl 0 rfl) ?_
          refine lv_iload_n hx hb dX9_stone_62 rfl (lv_at hl 2 rfl) ?_
          refine lv_iload_n hx hb dX9_stone_63 rfl (lv_at hl 3 rfl) ?_
          refine lv_iload_n hx hb dX9_stone_64 rfl (lv_at hl 4 rfl) ?_
          refine lv_iload hx hb dX9_stone_65 (lv_at hl 5 rfl) ?_
          refine kNew_v (As := [va_rf (O 7), .int (nI n9), .int x0, .int x1, .int (bI x2), .int x3]) (rest := [.ref q_14]) (X := CT cy a J (va_up (va_up I 9 (I 9)) 10 (I 10)) (va_up (va_up O 7 (O 7)) 8 (O 8)) R (va_up RO 2 (RO 2)) (LL ++ Y)) ⟨hx, hb, hml, hown, hts⟩ (ct_X7_init l D cy q_14 _ (O 7) (nI n9) x0 x1 x2 x3) (cwI 6 hts gX9_stone_X7_init rfl rfl rfl hw3 hw6 hw5 rfl (by decide +kernel) ⟨Nat.le_of_ble_eq_true rfl, Nat.le_of_ble_eq_true rfl⟩) hK hN hP hD hS hA rfl hl.1 rfl (Nat.le_of_ble_eq_true rfl) dX9_stone_67 ⟨Nat.le_of_ble_eq_true rfl, Nat.le_of_ble_eq_true rfl⟩ (fun u H locs hw hP hD hS => ?_)
          have hP : va_P D vwCl (CT cy a J (va_up (va_up I 9 (I 9)) 10 (I 10)) (va_up (va_up O 7 (O 7)) 8 (O 8)) R (va_up RO 2 (RO 2)) (LL ++ Y) ++ [(q_14, .inr (6, [va_rf (O 7), .int (nI n9), .int x0, .int x1, .int (bI x2), .int x3, .long (g_place x1 x2)]))]) H := hP
          have hD : va_D A (CT cy a J (va_up (va_up I 9 (I 9)) 10 (I 10)) (va_up (va_up O 7 (O 7)) 8 (O 8)) R (va_up RO 2 (RO 2)) (LL ++ Y) ++ [(q_14, .inr (6, [va_rf (O 7), .int (nI n9), .int x0, .int x1, .int (bI x2), .int x3, .long (g_place x1 x2)]))]) := hD
          have hP : va_P D vwCl (CT cy a J (va_up (va_up I 9 (I 9)) 10 (I 10)) (va_up (va_up O 7 (O 7)) 8 (O 8)) R (va_up RO 2 (RO 2)) (LL ++ (Y ++ [(q_14, .inr (6, [va_rf (O 7), .int (nI n9), .int x0, .int x1, .int (bI x2), .int x3, .long (g_place x1 x2)]))]))) H := by rw [← List.append_assoc]; exact hP
          have hD : va_D A (CT cy a J (va_up (va_up I 9 (I 9)) 10 (I 10)) (va_up (va_up O 7 (O 7)) 8 (O 8)) R (va_up RO 2 (RO 2)) (LL ++ (Y ++ [(q_14, .inr (6, [va_rf (O 7), .int (nI n9), .int x0, .int x1, .int (bI x2), .int x3, .long (g_place x1 x2)]))]))) := by rw [← List.append_assoc]; exact hD
          have hs_15 : ∀ c, c ∈ Y → c ∈ (Y ++ [(q_14, .inr (6, [va_rf (O 7), .int (nI n9), .int x0, .int x1, .int (bI x2), .int x3, .long (g_place x1 x2)]))]) := fun c h => List.mem_append_left _ h
          have hi_16 : chO (Y ++ [(q_14, .inr (6, [va_rf (O 7), .int (nI n9), .int x0, .int x1, .int (bI x2), .int x3, .long (g_place x1 x2)]))]) (O 7) := chO_mono hs_15 hM.2.1
          have hi_17 : layO (Y ++ [(q_14, .inr (6, [va_rf (O 7), .int (nI n9), .int x0, .int x1, .int (bI x2), .int x3, .long (g_place x1 x2)]))]) (O 8) := layO_mono hs_15 hM.2.2.1
          have hi_18 : ∀ i, i < 20 → pasO (Y ++ [(q_14, .inr (6, [va_rf (O 7), .int (nI n9), .int x0, .int x1, .int (bI x2), .int x3, .long (g_place x1 x2)]))]) ((RO 2) i) := pas_mono hs_15 hM.2.2.2.1
          have hmono_19 : ∀ c, c ∈ Y → c ∈ (Y ++ [(q_14, .inr (6, [va_rf (O 7), .int (nI n9), .int x0, .int x1, .int (bI x2), .int x3, .long (g_place x1 x2)]))]) := fun c h => hs_15 c ((fun _ h => h) c h)
          refine lv_astore (lv' := [(6, .ref q_14), (5, .int (nI n9)), (0, .ref (a 0)), (1, .int x0), (2, .int x1), (3, .int (bI x2)), (4, .int x3)]) hx hb dX9_stone_70 hl (by decide) rfl (fun ls hl => ?_)
          refine lv_aload hx hb dX9_stone_72 (lv_at hl 0 rfl) ?_
          obtain ⟨k_20, hk_21⟩ : ∃ k : Nat, (CT cy a J (va_up (va_up I 9 (I 9)) 10 (I 10)) (va_up (va_up O 7 (O 7)) 8 (O 8)) R (va_up RO 2 (RO 2)) (LL ++ (Y ++ [(q_14, .inr (6, [va_rf (O 7), .int (nI n9), .int x0, .int x1, .int (bI x2), .int x3, .long (g_place x1 x2)]))])))[k]? = some (q_14, .inr (6, [va_rf (O 7), .int (nI n9), .int x0, .int x1, .int (bI x2), .int x3, .long (g_place x1 x2)])) := pixT mem_last
          refine kRa_i (As := []) (rest := []) (q0 := k_20) ⟨hx, hb, hml, hown, hts⟩ (t_X7_isGlued l D cy _ (CT cy a J (va_up (va_up I 9 (I 9)) 10 (I 10)) (va_up (va_up O 7 (O 7)) 8 (O 8)) R (va_up RO 2 (RO 2)) (LL ++ (Y ++ [(q_14, .inr (6, [va_rf (O 7), .int (nI n9), .int x0, .int x1, .int (bI x2), .int x3, .long (g_place x1 x2)]))]))) k_20 q_14 (O 7) (nI n9) x0 x1 x2 x3 (g_place x1 x2) hk_21 ) (cwV 0 hts gX9_stone_X7_isGlued rfl rfl rfl (by decide +kernel) ⟨Nat.le_of_ble_eq_true rfl, Nat.le_of_ble_eq_true rfl⟩) hK hN hP hD hk_21 rfl rfl hl.1 rfl (Nat.le_of_ble_eq_true rfl) dX9_stone_74 ⟨Nat.le_of_ble_eq_true rfl, Nat.le_of_ble_eq_true rfl⟩ (fun r_22 hr_23 => ?_)
          obtain ⟨zb_24, rfl⟩ := hr_23
          refine lv_if_eq (tgt := 102) hx hb dX9_stone_77 (by decide) (fun c_25 => ?_) (fun c_25 => ?_)
          · replace c_25 := bI_f c_25
            refine lv_iload_n hx hb dX9_stone_102 rfl (lv_at hl 3 rfl) ?_
            refine lv_iconst (v := 3) hx hb dX9_stone_103 (by decide) ?_
            refine lv_icmp_ne (tgt := 129) hx hb dX9_stone_104 (by decide) (fun c_26 => ?_) (fun c_26 => ?_)
            · refine lv_iload hx hb dX9_stone_129 (lv_at hl 1 rfl) ?_
              refine lv_bipush (v := 20) hx hb dX9_stone_131 (by decide) ?_
              refine lv_icmp_lt (tgt := 143) hx hb dX9_stone_133 (by decide) (fun c_27 => ?_) (fun c_27 => ?_)
              · refine lv_aload_n hx hb dX9_stone_143 rfl (lv_at hl 2 rfl) ?_
                refine kM_v (As := []) (rest := []) (q0 := 0) ⟨hx, hb, hml, hown, hts⟩ (t_X9_keepPast l D cy a _ J (va_up (va_up I 9 (I 9)) 10 (I 10)) (va_up (va_up O 7 (O 7)) 8 (O 8)) R (va_up RO 2 (RO 2)) LL (Y ++ [(q_14, .inr (6, [va_rf (O 7), .int (nI n9), .int x0, .int x1, .int (bI x2), .int x3, .long (g_place x1 x2)]))])   ⟨hM.1, hi_16, hi_17, hi_18, hM.2.2.2.2.1, hM.2.2.2.2.2.1, hM.2.2.2.2.2.2.1, hM.2.2.2.2.2.2.2.1, hRO0, hRO1, hRO2, hRO3⟩ ) (cwV 0 hts gX9_stone_X9_keepPast rfl rfl rfl (by decide +kernel) ⟨Nat.le_of_ble_eq_true rfl, Nat.le_of_ble_eq_true rfl⟩) hK hN hP hD hS hA rfl rfl rfl hl.1 rfl (Nat.le_of_ble_eq_true rfl) dX9_stone_144 ⟨Nat.le_of_ble_eq_true rfl, Nat.le_of_ble_eq_true rfl⟩ (fun u H locs hw hP hD hS => ?_)
                obtain ⟨w_29, w_30, Y_31, ⟨hi_32, hi_33, hs_34⟩, rfl⟩ := hw
                have hi_35 : chO Y_31 (O 7) := chO_mono hs_34 hi_16
                have hi_36 : layO Y_31 (O 8) := layO_mono hs_34 hi_17
                have hmono_37 : ∀ c, c ∈ Y → c ∈ Y_31 := fun c h => hs_34 c (hmono_19 c h)
                have hP : va_P D vwCl (CT cy a J (va_up (va_up I 9 w_29) 10 (I 10)) (va_up (va_up O 7 (O 7)) 8 (O 8)) R (va_up RO 2 w_30) (LL ++ Y_31)) H := hP
                have hD : va_D A (CT cy a J (va_up (va_up I 9 w_29) 10 (I 10)) (va_up (va_up O 7 (O 7)) 8 (O 8)) R (va_up RO 2 w_30) (LL ++ Y_31)) := hD
                refine lv_aload_n hx hb dX9_stone_147 rfl (lv_at hl 2 rfl) ?_
                refine lv_aload hx hb dX9_stone_148 (lv_at hl 0 rfl) ?_
                refine va_put (D := D) (ci := 8) (v := .ref q_14) (ty := .object "ParquetLayer$Stone") (C := RX9) (T := TX9) (N := 11) hx hb hts hi9 tyX9 tyX9_ok nmX9 hown hK hP hD hS 0 rfl rfl 7 (by decide) hw4 (fun _ h9 => h9) rfl (by decide +kernel) rfl rfl (Nat.le_of_ble_eq_true rfl) dX9_stone_150 (fun H locs hP hD hS => ?_)
                have hP : va_P D vwCl (CT cy a J (va_up (va_up I 9 w_29) 10 (I 10)) (va_up (va_up O 7 (some q_14)) 8 (O 8)) R (va_up RO 2 w_30) (LL ++ Y_31)) H := hP
                have hD : va_D A (CT cy a J (va_up (va_up I 9 w_29) 10 (I 10)) (va_up (va_up O 7 (some q_14)) 8 (O 8)) R (va_up RO 2 w_30) (LL ++ Y_31)) := hD
                have hi_38 : chO Y_31 (some q_14) := (chO_mono hs_34 ⟨n9 + 1, q_14, _, _, _, _, _, _, rfl, mem_last, chain_mono hs_15 _ _ hch9⟩)
                refine lv_aload_n hx hb dX9_stone_153 rfl (lv_at hl 2 rfl) ?_
                refine lv_null hx hb dX9_stone_154 ?_
                refine va_put (D := D) (ci := 8) (v := .null) (ty := .object "ParquetLayer$Laying") (C := RX9) (T := TX9) (N := 11) hx hb hts hi9 tyX9 tyX9_ok nmX9 hown hK hP hD hS 0 rfl rfl 8 (by decide) hw7 (fun _ h9 => h9) rfl (by decide +kernel) rfl rfl (Nat.le_of_ble_eq_true rfl) dX9_stone_155 (fun H locs hP hD hS => ?_)
                have hP : va_P D vwCl (CT cy a J (va_up (va_up I 9 w_29) 10 (I 10)) (va_up (va_up O 7 (some q_14)) 8 none) R (va_up RO 2 w_30) (LL ++ Y_31)) H := hP
                have hD : va_D A (CT cy a J (va_up (va_up I 9 w_29) 10 (I 10)) (va_up (va_up O 7 (some q_14)) 8 none) R (va_up RO 2 w_30) (LL ++ Y_31)) := hD
                have hi_39 : layO Y_31 none := lay_none
                refine lv_iload hx hb dX9_stone_158 (lv_at hl 1 rfl) ?_
                exact wret_i hx hb hr hlocks (J, (va_up (va_up I 9 w_29) 10 (I 10)), (va_up (va_up O 7 (some q_14)) 8 none), R, (va_up RO 2 w_30), LL, Y_31) ⟨w_29, (I 10), (some q_14), none, w_30, Y_31, ⟨hi_32, hi_38, hi_39, hi_33, hmono_37⟩, rfl⟩ hP hD hS dX9_stone_160
              · refine lv_aload_n hx hb dX9_stone_136 rfl (lv_at hl 2 rfl) ?_
                refine lv_ldc (v := (-100005)) hx hb hown hw8 dX9_stone_137 ?_
                refine kM_i (As := [.int (-100005)]) (rest := []) (q0 := 0) ⟨hx, hb, hml, hown, hts⟩ (t_X9_finding l D cy a _ J (va_up (va_up I 9 (I 9)) 10 (I 10)) (va_up (va_up O 7 (O 7)) 8 (O 8)) R (va_up RO 2 (RO 2)) LL (Y ++ [(q_14, .inr (6, [va_rf (O 7), .int (nI n9), .int x0, .int x1, .int (bI x2), .int x3, .long (g_place x1 x2)]))]) ((-100005) : Int32)   ) (cwV 1 hts gX9_stone_X9_finding rfl rfl rfl (by decide +kernel) ⟨Nat.le_of_ble_eq_true rfl, Nat.le_of_ble_eq_true rfl⟩) hK hN hP hD hS hA rfl rfl rfl hl.1 rfl (Nat.le_of_ble_eq_true rfl) dX9_stone_139 ⟨Nat.le_of_ble_eq_true rfl, Nat.le_of_ble_eq_true rfl⟩ (fun r_40 u H locs hw hP hD hS => ?_)
                obtain ⟨w_41, rfl, rfl⟩ := hw
                have hP : va_P D vwCl (CT cy a J (va_up (va_up I 9 (I 9)) 10 w_41) (va_up (va_up O 7 (O 7)) 8 (O 8)) R (va_up RO 2 (RO 2)) (LL ++ (Y ++ [(q_14, .inr (6, [va_rf (O 7), .int (nI n9), .int x0, .int x1, .int (bI x2), .int x3, .long (g_place x1 x2)]))]))) H := hP
                have hD : va_D A (CT cy a J (va_up (va_up I 9 (I 9)) 10 w_41) (va_up (va_up O 7 (O 7)) 8 (O 8)) R (va_up RO 2 (RO 2)) (LL ++ (Y ++ [(q_14, .inr (6, [va_rf (O 7), .int (nI n9), .int x0, .int x1, .int (bI x2), .int x3, .long (g_place x1 x2)]))]))) := hD
                refine W.widen (k := 2) (n := 10) (Nat.le_of_ble_eq_true rfl) (Nat.le_of_ble_eq_true rfl) ?_
                exact wret_i hx hb hr hlocks (J, (va_up (va_up I 9 (I 9)) 10 w_41), (va_up (va_up O 7 (O 7)) 8 (O 8)), R, (va_up RO 2 (RO 2)), LL, Y ++ [(q_14, .inr (6, [va_rf (O 7), .int (nI n9), .int x0, .int x1, .int (bI x2), .int x3, .long (g_place x1 x2)]))]) ⟨(I 9), w_41, (O 7), (O 8), (RO 2), (Y ++ [(q_14, .inr (6, [va_rf (O 7), .int (nI n9), .int x0, .int x1, .int (bI x2), .int x3, .long (g_place x1 x2)]))]), ⟨hM.1, hi_16, hi_17, hi_18, hmono_19⟩, rfl⟩ hP hD hS dX9_stone_142
            · refine lv_aload hx hb dX9_stone_107 (lv_at hl 0 rfl) ?_
              obtain ⟨k_42, hk_43⟩ : ∃ k : Nat, (CT cy a J (va_up (va_up I 9 (I 9)) 10 (I 10)) (va_up (va_up O 7 (O 7)) 8 (O 8)) R (va_up RO 2 (RO 2)) (LL ++ (Y ++ [(q_14, .inr (6, [va_rf (O 7), .int (nI n9), .int x0, .int x1, .int (bI x2), .int x3, .long (g_place x1 x2)]))])))[k]? = some (q_14, .inr (6, [va_rf (O 7), .int (nI n9), .int x0, .int x1, .int (bI x2), .int x3, .long (g_place x1 x2)])) := pixT mem_last
              refine va_get (D := D) (ci := 6) (v := .long (g_place x1 x2)) (C := RX7) (T := TX7) (N := 7) hx hb hts hi7 hown hK hP k_42 hk_43 rfl 6 (by decide) hw9 (fun _ h9 => h9) rfl dX9_stone_109 ?_
              refine lv_aload_n hx hb dX9_stone_112 rfl (lv_at hl 2 rfl) ?_
              refine va_get (D := D) (ci := 8) (v := .long (J 6)) (C := RX9) (T := TX9) (N := 11) hx hb hts hi9 hown hK hP 0 rfl rfl 6 (by decide) hw10 (fun _ h9 => h9) rfl dX9_stone_113 ?_
              refine kSa_i (As := [.long (g_place x1 x2), .long (J 6)]) (rest := []) ⟨hx, hb, hml, hown, hts⟩ (t_X1_touchesOutside l (g_place x1 x2) (J 6) ) (va_cwS 2 hts gX9_stone_X1_touchesOutside rfl rfl rfl (by decide +kernel) ⟨Nat.le_of_ble_eq_true rfl, Nat.le_of_ble_eq_true rfl⟩) rfl hl.1 rfl (Nat.le_of_ble_eq_true rfl) dX9_stone_116 ⟨Nat.le_of_ble_eq_true rfl, Nat.le_of_ble_eq_true rfl⟩ (fun r_44 hr_45 => ?_)
              obtain ⟨zb_46, rfl⟩ := hr_45
              refine lv_if_ne (tgt := 129) hx hb dX9_stone_119 (by decide) (fun c_47 => ?_) (fun c_47 => ?_)
              · replace c_47 := bI_t c_47
                refine lv_iload hx hb dX9_stone_129 (lv_at hl 1 rfl) ?_
                refine lv_bipush (v := 20) hx hb dX9_stone_131 (by decide) ?_
                refine lv_icmp_lt (tgt := 143) hx hb dX9_stone_133 (by decide) (fun c_48 => ?_) (fun c_48 => ?_)
                · refine lv_aload_n hx hb dX9_stone_143 rfl (lv_at hl 2 rfl) ?_
                  refine kM_v (As := []) (rest := []) (q0 := 0) ⟨hx, hb, hml, hown, hts⟩ (t_X9_keepPast l D cy a _ J (va_up (va_up I 9 (I 9)) 10 (I 10)) (va_up (va_up O 7 (O 7)) 8 (O 8)) R (va_up RO 2 (RO 2)) LL (Y ++ [(q_14, .inr (6, [va_rf (O 7), .int (nI n9), .int x0, .int x1, .int (bI x2), .int x3, .long (g_place x1 x2)]))])   ⟨hM.1, hi_16, hi_17, hi_18, hM.2.2.2.2.1, hM.2.2.2.2.2.1, hM.2.2.2.2.2.2.1, hM.2.2.2.2.2.2.2.1, hRO0, hRO1, hRO2, hRO3⟩ ) (cwV 0 hts gX9_stone_X9_keepPast rfl rfl rfl (by decide +kernel) ⟨Nat.le_of_ble_eq_true rfl, Nat.le_of_ble_eq_true rfl⟩) hK hN hP hD hS hA rfl rfl rfl hl.1 rfl (Nat.le_of_ble_eq_true rfl) dX9_stone_144 ⟨Nat.le_of_ble_eq_true rfl, Nat.le_of_ble_eq_true rfl⟩ (fun u H locs hw hP hD hS => ?_)
                  obtain ⟨w_50, w_51, Y_52, ⟨hi_53, hi_54, hs_55⟩, rfl⟩ := hw
                  have hi_56 : chO Y_52 (O 7) := chO_mono hs_55 hi_16
                  have hi_57 : layO Y_52 (O 8) := layO_mono hs_55 hi_17
                  have hmono_58 : ∀ c, c ∈ Y → c ∈ Y_52 := fun c h => hs_55 c (hmono_19 c h)
                  have hP : va_P D vwCl (CT cy a J (va_up (va_up I 9 w_50) 10 (I 10)) (va_up (va_up O 7 (O 7)) 8 (O 8)) R (va_up RO 2 w_51) (LL ++ Y_52)) H := hP
                  have hD : va_D A (CT cy a J (va_up (va_up I 9 w_50) 10 (I 10)) (va_up (va_up O 7 (O 7)) 8 (O 8)) R (va_up RO 2 w_51) (LL ++ Y_52)) := hD
                  refine lv_aload_n hx hb dX9_stone_147 rfl (lv_at hl 2 rfl) ?_
                  refine lv_aload hx hb dX9_stone_148 (lv_at hl 0 rfl) ?_
                  refine va_put (D := D) (ci := 8) (v := .ref q_14) (ty := .object "ParquetLayer$Stone") (C := RX9) (T := TX9) (N := 11) hx hb hts hi9 tyX9 tyX9_ok nmX9 hown hK hP hD hS 0 rfl rfl 7 (by decide) hw4 (fun _ h9 => h9) rfl (by decide +kernel) rfl rfl (Nat.le_of_ble_eq_true rfl) dX9_stone_150 (fun H locs hP hD hS => ?_)
                  have hP : va_P D vwCl (CT cy a J (va_up (va_up I 9 w_50) 10 (I 10)) (va_up (va_up O 7 (some q_14)) 8 (O 8)) R (va_up RO 2 w_51) (LL ++ Y_52)) H := hP
                  have hD : va_D A (CT cy a J (va_up (va_up I 9 w_50) 10 (I 10)) (va_up (va_up O 7 (some q_14)) 8 (O 8)) R (va_up RO 2 w_51) (LL ++ Y_52)) := hD
                  have hi_59 : chO Y_52 (some q_14) := (chO_mono hs_55 ⟨n9 + 1, q_14, _, _, _, _, _, _, rfl, mem_last, chain_mono hs_15 _ _ hch9⟩)
                  refine lv_aload_n hx hb dX9_stone_153 rfl (lv_at hl 2 rfl) ?_
                  refine lv_null hx hb dX9_stone_154 ?_
                  refine va_put (D := D) (ci := 8) (v := .null) (ty := .object "ParquetLayer$Laying") (C := RX9) (T := TX9) (N := 11) hx hb hts hi9 tyX9 tyX9_ok nmX9 hown hK hP hD hS 0 rfl rfl 8 (by decide) hw7 (fun _ h9 => h9) rfl (by decide +kernel) rfl rfl (Nat.le_of_ble_eq_true rfl) dX9_stone_155 (fun H locs hP hD hS => ?_)
                  have hP : va_P D vwCl (CT cy a J (va_up (va_up I 9 w_50) 10 (I 10)) (va_up (va_up O 7 (some q_14)) 8 none) R (va_up RO 2 w_51) (LL ++ Y_52)) H := hP
                  have hD : va_D A (CT cy a J (va_up (va_up I 9 w_50) 10 (I 10)) (va_up (va_up O 7 (some q_14)) 8 none) R (va_up RO 2 w_51) (LL ++ Y_52)) := hD
                  have hi_60 : layO Y_52 none := lay_none
                  refine lv_iload hx hb dX9_stone_158 (lv_at hl 1 rfl) ?_
                  exact wret_i hx hb hr hlocks (J, (va_up (va_up I 9 w_50) 10 (I 10)), (va_up (va_up O 7 (some q_14)) 8 none), R, (va_up RO 2 w_51), LL, Y_52) ⟨w_50, (I 10), (some q_14), none, w_51, Y_52, ⟨hi_53, hi_59, hi_60, hi_54, hmono_58⟩, rfl⟩ hP hD hS dX9_stone_160
                · refine lv_aload_n hx hb dX9_stone_136 rfl (lv_at hl 2 rfl) ?_
                  refine lv_ldc (v := (-100005)) hx hb hown hw8 dX9_stone_137 ?_
                  refine kM_i (As := [.int (-100005)]) (rest := []) (q0 := 0) ⟨hx, hb, hml, hown, hts⟩ (t_X9_finding l D cy a _ J (va_up (va_up I 9 (I 9)) 10 (I 10)) (va_up (va_up O 7 (O 7)) 8 (O 8)) R (va_up RO 2 (RO 2)) LL (Y ++ [(q_14, .inr (6, [va_rf (O 7), .int (nI n9), .int x0, .int x1, .int (bI x2), .int x3, .long (g_place x1 x2)]))]) ((-100005) : Int32)   ) (cwV 1 hts gX9_stone_X9_finding rfl rfl rfl (by decide +kernel) ⟨Nat.le_of_ble_eq_true rfl, Nat.le_of_ble_eq_true rfl⟩) hK hN hP hD hS hA rfl rfl rfl hl.1 rfl (Nat.le_of_ble_eq_true rfl) dX9_stone_139 ⟨Nat.le_of_ble_eq_true rfl, Nat.le_of_ble_eq_true rfl⟩ (fun r_61 u H locs hw hP hD hS => ?_)
                  obtain ⟨w_62, rfl, rfl⟩ := hw
                  have hP : va_P D vwCl (CT cy a J (va_up (va_up I 9 (I 9)) 10 w_62) (va_up (va_up O 7 (O 7)) 8 (O 8)) R (va_up RO 2 (RO 2)) (LL ++ (Y ++ [(q_14, .inr (6, [va_rf (O 7), .int (nI n9), .int x0, .int x1, .int (bI x2), .int x3, .long (g_place x1 x2)]))]))) H := hP
                  have hD : va_D A (CT cy a J (va_up (va_up I 9 (I 9)) 10 w_62) (va_up (va_up O 7 (O 7)) 8 (O 8)) R (va_up RO 2 (RO 2)) (LL ++ (Y ++ [(q_14, .inr (6, [va_rf (O 7), .int (nI n9), .int x0, .int x1, .int (bI x2), .int x3, .long (g_place x1 x2)]))]))) := hD
                  refine W.widen (k := 2) (n := 10) (Nat.le_of_ble_eq_true rfl) (Nat.le_of_ble_eq_true rfl) ?_
                  exact wret_i hx hb hr hlocks (J, (va_up (va_up I 9 (I 9)) 10 w_62), (va_up (va_up O 7 (O 7)) 8 (O 8)), R, (va_up RO 2 (RO 2)), LL, Y ++ [(q_14, .inr (6, [va_rf (O 7), .int (nI n9), .int x0, .int x1, .int (bI x2), .int x3, .long (g_place x1 x2)]))]) ⟨(I 9), w_62, (O 7), (O 8), (RO 2), (Y ++ [(q_14, .inr (6, [va_rf (O 7), .int (nI n9), .int x0, .int x1, .int (bI x2), .int x3, .long (g_place x1 x2)]))]), ⟨hM.1, hi_16, hi_17, hi_18, hmono_19⟩, rfl⟩ hP hD hS dX9_stone_142
              · replace c_47 := bI_f c_47
                refine lv_aload_n hx hb dX9_stone_122 rfl (lv_at hl 2 rfl) ?_
                refine lv_ldc (v := (-100004)) hx hb hown hw11 dX9_stone_123 ?_
                refine kM_i (As := [.int (-100004)]) (rest := []) (q0 := 0) ⟨hx, hb, hml, hown, hts⟩ (t_X9_finding l D cy a _ J (va_up (va_up I 9 (I 9)) 10 (I 10)) (va_up (va_up O 7 (O 7)) 8 (O 8)) R (va_up RO 2 (RO 2)) LL (Y ++ [(q_14, .inr (6, [va_rf (O 7), .int (nI n9), .int x0, .int x1, .int (bI x2), .int x3, .long (g_place x1 x2)]))]) ((-100004) : Int32)   ) (cwV 1 hts gX9_stone_X9_finding rfl rfl rfl (by decide +kernel) ⟨Nat.le_of_ble_eq_true rfl, Nat.le_of_ble_eq_true rfl⟩) hK hN hP hD hS hA rfl rfl rfl hl.1 rfl (Nat.le_of_ble_eq_true rfl) dX9_stone_125 ⟨Nat.le_of_ble_eq_true rfl, Nat.le_of_ble_eq_true rfl⟩ (fun r_63 u H locs hw hP hD hS => ?_)
                obtain ⟨w_64, rfl, rfl⟩ := hw
                have hP : va_P D vwCl (CT cy a J (va_up (va_up I 9 (I 9)) 10 w_64) (va_up (va_up O 7 (O 7)) 8 (O 8)) R (va_up RO 2 (RO 2)) (LL ++ (Y ++ [(q_14, .inr (6, [va_rf (O 7), .int (nI n9), .int x0, .int x1, .int (bI x2), .int x3, .long (g_place x1 x2)]))]))) H := hP
                have hD : va_D A (CT cy a J (va_up (va_up I 9 (I 9)) 10 w_64) (va_up (va_up O 7 (O 7)) 8 (O 8)) R (va_up RO 2 (RO 2)) (LL ++ (Y ++ [(q_14, .inr (6, [va_rf (O 7), .int (nI n9), .int x0, .int x1, .int (bI x2), .int x3, .long (g_place x1 x2)]))]))) := hD
                refine W.widen (k := 2) (n := 10) (Nat.le_of_ble_eq_true rfl) (Nat.le_of_ble_eq_true rfl) ?_
                exact wret_i hx hb hr hlocks (J, (va_up (va_up I 9 (I 9)) 10 w_64), (va_up (va_up O 7 (O 7)) 8 (O 8)), R, (va_up RO 2 (RO 2)), LL, Y ++ [(q_14, .inr (6, [va_rf (O 7), .int (nI n9), .int x0, .int x1, .int (bI x2), .int x3, .long (g_place x1 x2)]))]) ⟨(I 9), w_64, (O 7), (O 8), (RO 2), (Y ++ [(q_14, .inr (6, [va_rf (O 7), .int (nI n9), .int x0, .int x1, .int (bI x2), .int x3, .long (g_place x1 x2)]))]), ⟨hM.1, hi_16, hi_17, hi_18, hmono_19⟩, rfl⟩ hP hD hS dX9_stone_128
          · replace c_25 := bI_t c_25
            refine lv_aload hx hb dX9_stone_80 (lv_at hl 0 rfl) ?_
            obtain ⟨k_65, hk_66⟩ : ∃ k : Nat, (CT cy a J (va_up (va_up I 9 (I 9)) 10 (I 10)) (va_up (va_up O 7 (O 7)) 8 (O 8)) R (va_up RO 2 (RO 2)) (LL ++ (Y ++ [(q_14, .inr (6, [va_rf (O 7), .int (nI n9), .int x0, .int x1, .int (bI x2), .int x3, .long (g_place x1 x2)]))])))[k]? = some (q_14, .inr (6, [va_rf (O 7), .int (nI n9), .int x0, .int x1, .int (bI x2), .int x3, .long (g_place x1 x2)])) := pixT mem_last
            refine va_get (D := D) (ci := 6) (v := .long (g_place x1 x2)) (C := RX7) (T := TX7) (N := 7) hx hb hts hi7 hown hK hP k_65 hk_66 rfl 6 (by decide) hw9 (fun _ h9 => h9) rfl dX9_stone_82 ?_
            refine lv_aload_n hx hb dX9_stone_85 rfl (lv_at hl 2 rfl) ?_
            refine kRa_l (As := []) (rest := [.long (g_place x1 x2)]) (q0 := 0) ⟨hx, hb, hml, hown, hts⟩ (t_X9_gluedFields l D cy a _ J (va_up (va_up I 9 (I 9)) 10 (I 10)) (va_up (va_up O 7 (O 7)) 8 (O 8)) R (va_up RO 2 (RO 2)) LL (Y ++ [(q_14, .inr (6, [va_rf (O 7), .int (nI n9), .int x0, .int x1, .int (bI x2), .int x3, .long (g_place x1 x2)]))])   ⟨hM.1, hi_16, hi_17, hi_18, hM.2.2.2.2.1, hM.2.2.2.2.2.1, hM.2.2.2.2.2.2.1, hM.2.2.2.2.2.2.2.1, hRO0, hRO1, hRO2, hRO3⟩) (cwV 0 hts gX9_stone_X9_gluedFields rfl rfl rfl (by decide +kernel) ⟨Nat.le_of_ble_eq_true rfl, Nat.le_of_ble_eq_true rfl⟩) hK hN hP hD rfl rfl rfl hl.1 rfl (Nat.le_of_ble_eq_true rfl) dX9_stone_86 ⟨Nat.le_of_ble_eq_true rfl, Nat.le_of_ble_eq_true rfl⟩ (fun r_67 hr_68 => ?_)
            refine lv_land hx hb dX9_stone_89 ?_
            refine lv_lconst (v := 0) hx hb dX9_stone_90 (by decide) ?_
            refine W.lcmp hx hb dX9_stone_91 ?_
            refine lv_if_eq (tgt := 102) hx hb dX9_stone_92 (by decide) (fun c_69 => ?_) (fun c_69 => ?_)
            · replace c_69 := (lg_cmp_eq _ _).mp c_69
              refine lv_iload_n hx hb dX9_stone_102 rfl (lv_at hl 3 rfl) ?_
              refine lv_iconst (v := 3) hx hb dX9_stone_103 (by decide) ?_
              refine lv_icmp_ne (tgt := 129) hx hb dX9_stone_104 (by decide) (fun c_70 => ?_) (fun c_70 => ?_)
              · refine lv_iload hx hb dX9_stone_129 (lv_at hl 1 rfl) ?_
                refine lv_bipush (v := 20) hx hb dX9_stone_131 (by decide) ?_
                refine lv_icmp_lt (tgt := 143) hx hb dX9_stone_133 (by decide) (fun c_71 => ?_) (fun c_71 => ?_)
                · refine lv_aload_n hx hb dX9_stone_143 rfl (lv_at hl 2 rfl) ?_
                  refine kM_v (As := []) (rest := []) (q0 := 0) ⟨hx, hb, hml, hown, hts⟩ (t_X9_keepPast l D cy a _ J (va_up (va_up I 9 (I 9)) 10 (I 10)) (va_up (va_up O 7 (O 7)) 8 (O 8)) R (va_up RO 2 (RO 2)) LL (Y ++ [(q_14, .inr (6, [va_rf (O 7), .int (nI n9), .int x0, .int x1, .int (bI x2), .int x3, .long (g_place x1 x2)]))])   ⟨hM.1, hi_16, hi_17, hi_18, hM.2.2.2.2.1, hM.2.2.2.2.2.1, hM.2.2.2.2.2.2.1, hM.2.2.2.2.2.2.2.1, hRO0, hRO1, hRO2, hRO3⟩ ) (cwV 0 hts gX9_stone_X9_keepPast rfl rfl rfl (by decide +kernel) ⟨Nat.le_of_ble_eq_true rfl, Nat.le_of_ble_eq_true rfl⟩) hK hN hP hD hS hA rfl rfl rfl hl.1 rfl (Nat.le_of_ble_eq_true rfl) dX9_stone_144 ⟨Nat.le_of_ble_eq_true rfl, Nat.le_of_ble_eq_true rfl⟩ (fun u H locs hw hP hD hS => ?_)
                  obtain ⟨w_73, w_74, Y_75, ⟨hi_76, hi_77, hs_78⟩, rfl⟩ := hw
                  have hi_79 : chO Y_75 (O 7) := chO_mono hs_78 hi_16
                  have hi_80 : layO Y_75 (O 8) := layO_mono hs_78 hi_17
                  have hmono_81 : ∀ c, c ∈ Y → c ∈ Y_75 := fun c h => hs_78 c (hmono_19 c h)
                  have hP : va_P D vwCl (CT cy a J (va_up (va_up I 9 w_73) 10 (I 10)) (va_up (va_up O 7 (O 7)) 8 (O 8)) R (va_up RO 2 w_74) (LL ++ Y_75)) H := hP
                  have hD : va_D A (CT cy a J (va_up (va_up I 9 w_73) 10 (I 10)) (va_up (va_up O 7 (O 7)) 8 (O 8)) R (va_up RO 2 w_74) (LL ++ Y_75)) := hD
                  refine lv_aload_n hx hb dX9_stone_147 rfl (lv_at hl 2 rfl) ?_
                  refine lv_aload hx hb dX9_stone_148 (lv_at hl 0 rfl) ?_
                  refine va_put (D := D) (ci := 8) (v := .ref q_14) (ty := .object "ParquetLayer$Stone") (C := RX9) (T := TX9) (N := 11) hx hb hts hi9 tyX9 tyX9_ok nmX9 hown hK hP hD hS 0 rfl rfl 7 (by decide) hw4 (fun _ h9 => h9) rfl (by decide +kernel) rfl rfl (Nat.le_of_ble_eq_true rfl) dX9_stone_150 (fun H locs hP hD hS => ?_)
                  have hP : va_P D vwCl (CT cy a J (va_up (va_up I 9 w_73) 10 (I 10)) (va_up (va_up O 7 (some q_14)) 8 (O 8)) R (va_up RO 2 w_74) (LL ++ Y_75)) H := hP
                  have hD : va_D A (CT cy a J (va_up (va_up I 9 w_73) 10 (I 10)) (va_up (va_up O 7 (some q_14)) 8 (O 8)) R (va_up RO 2 w_74) (LL ++ Y_75)) := hD
                  have hi_82 : chO Y_75 (some q_14) := (chO_mono hs_78 ⟨n9 + 1, q_14, _, _, _, _, _, _, rfl, mem_last, chain_mono hs_15 _ _ hch9⟩)
                  refine lv_aload_n hx hb dX9_stone_153 rfl (lv_at hl 2 rfl) ?_
                  refine lv_null hx hb dX9_stone_154 ?_
                  refine va_put (D := D) (ci := 8) (v := .null) (ty := .object "ParquetLayer$Laying") (C := RX9) (T := TX9) (N := 11) hx hb hts hi9 tyX9 tyX9_ok nmX9 hown hK hP hD hS 0 rfl rfl 8 (by decide) hw7 (fun _ h9 => h9) rfl (by decide +kernel) rfl rfl (Nat.le_of_ble_eq_true rfl) dX9_stone_155 (fun H locs hP hD hS => ?_)
                  have hP : va_P D vwCl (CT cy a J (va_up (va_up I 9 w_73) 10 (I 10)) (va_up (va_up O 7 (some q_14)) 8 none) R (va_up RO 2 w_74) (LL ++ Y_75)) H := hP
                  have hD : va_D A (CT cy a J (va_up (va_up I 9 w_73) 10 (I 10)) (va_up (va_up O 7 (some q_14)) 8 none) R (va_up RO 2 w_74) (LL ++ Y_75)) := hD
                  have hi_83 : layO Y_75 none := lay_none
                  refine lv_iload hx hb dX9_stone_158 (lv_at hl 1 rfl) ?_
                  exact wret_i hx hb hr hlocks (J, (va_up (va_up I 9 w_73) 10 (I 10)), (va_up (va_up O 7 (some q_14)) 8 none), R, (va_up RO 2 w_74), LL, Y_75) ⟨w_73, (I 10), (some q_14), none, w_74, Y_75, ⟨hi_76, hi_82, hi_83, hi_77, hmono_81⟩, rfl⟩ hP hD hS dX9_stone_160
                · refine lv_aload_n hx hb dX9_stone_136 rfl (lv_at hl 2 rfl) ?_
                  refine lv_ldc (v := (-100005)) hx hb hown hw8 dX9_stone_137 ?_
                  refine kM_i (As := [.int (-100005)]) (rest := []) (q0 := 0) ⟨hx, hb, hml, hown, hts⟩ (t_X9_finding l D cy a _ J (va_up (va_up I 9 (I 9)) 10 (I 10)) (va_up (va_up O 7 (O 7)) 8 (O 8)) R (va_up RO 2 (RO 2)) LL (Y ++ [(q_14, .inr (6, [va_rf (O 7), .int (nI n9), .int x0, .int x1, .int (bI x2), .int x3, .long (g_place x1 x2)]))]) ((-100005) : Int32)   ) (cwV 1 hts gX9_stone_X9_finding rfl rfl rfl (by decide +kernel) ⟨Nat.le_of_ble_eq_true rfl, Nat.le_of_ble_eq_true rfl⟩) hK hN hP hD hS hA rfl rfl rfl hl.1 rfl (Nat.le_of_ble_eq_true rfl) dX9_stone_139 ⟨Nat.le_of_ble_eq_true rfl, Nat.le_of_ble_eq_true rfl⟩ (fun r_84 u H locs hw hP hD hS => ?_)
                  obtain ⟨w_85, rfl, rfl⟩ := hw
                  have hP : va_P D vwCl (CT cy a J (va_up (va_up I 9 (I 9)) 10 w_85) (va_up (va_up O 7 (O 7)) 8 (O 8)) R (va_up RO 2 (RO 2)) (LL ++ (Y ++ [(q_14, .inr (6, [va_rf (O 7), .int (nI n9), .int x0, .int x1, .int (bI x2), .int x3, .long (g_place x1 x2)]))]))) H := hP
                  have hD : va_D A (CT cy a J (va_up (va_up I 9 (I 9)) 10 w_85) (va_up (va_up O 7 (O 7)) 8 (O 8)) R (va_up RO 2 (RO 2)) (LL ++ (Y ++ [(q_14, .inr (6, [va_rf (O 7), .int (nI n9), .int x0, .int x1, .int (bI x2), .int x3, .long (g_place x1 x2)]))]))) := hD
                  refine W.widen (k := 2) (n := 10) (Nat.le_of_ble_eq_true rfl) (Nat.le_of_ble_eq_true rfl) ?_
                  exact wret_i hx hb hr hlocks (J, (va_up (va_up I 9 (I 9)) 10 w_85), (va_up (va_up O 7 (O 7)) 8 (O 8)), R, (va_up RO 2 (RO 2)), LL, Y ++ [(q_14, .inr (6, [va_rf (O 7), .int (nI n9), .int x0, .int x1, .int (bI x2), .int x3, .long (g_place x1 x2)]))]) ⟨(I 9), w_85, (O 7), (O 8), (RO 2), (Y ++ [(q_14, .inr (6, [va_rf (O 7), .int (nI n9), .int x0, .int x1, .int (bI x2), .int x3, .long (g_place x1 x2)]))]), ⟨hM.1, hi_16, hi_17, hi_18, hmono_19⟩, rfl⟩ hP hD hS dX9_stone_142
              · refine lv_aload hx hb dX9_stone_107 (lv_at hl 0 rfl) ?_
                obtain ⟨k_86, hk_87⟩ : ∃ k : Nat, (CT cy a J (va_up (va_up I 9 (I 9)) 10 (I 10)) (va_up (va_up O 7 (O 7)) 8 (O 8)) R (va_up RO 2 (RO 2)) (LL ++ (Y ++ [(q_14, .inr (6, [va_rf (O 7), .int (nI n9), .int x0, .int x1, .int (bI x2), .int x3, .long (g_place x1 x2)]))])))[k]? = some (q_14, .inr (6, [va_rf (O 7), .int (nI n9), .int x0, .int x1, .int (bI x2), .int x3, .long (g_place x1 x2)])) := pixT mem_last
                refine va_get (D := D) (ci := 6) (v := .long (g_place x1 x2)) (C := RX7) (T := TX7) (N := 7) hx hb hts hi7 hown hK hP k_86 hk_87 rfl 6 (by decide) hw9 (fun _ h9 => h9) rfl dX9_stone_109 ?_
                refine lv_aload_n hx hb dX9_stone_112 rfl (lv_at hl 2 rfl) ?_
                refine va_get (D := D) (ci := 8) (v := .long (J 6)) (C := RX9) (T := TX9) (N := 11) hx hb hts hi9 hown hK hP 0 rfl rfl 6 (by decide) hw10 (fun _ h9 => h9) rfl dX9_stone_113 ?_
                refine kSa_i (As := [.long (g_place x1 x2), .long (J 6)]) (rest := []) ⟨hx, hb, hml, hown, hts⟩ (t_X1_touchesOutside l (g_place x1 x2) (J 6) ) (va_cwS 2 hts gX9_stone_X1_touchesOutside rfl rfl rfl (by decide +kernel) ⟨Nat.le_of_ble_eq_true rfl, Nat.le_of_ble_eq_true rfl⟩) rfl hl.1 rfl (Nat.le_of_ble_eq_true rfl) dX9_stone_116 ⟨Nat.le_of_ble_eq_true rfl, Nat.le_of_ble_eq_true rfl⟩ (fun r_88 hr_89 => ?_)
                obtain ⟨zb_90, rfl⟩ := hr_89
                refine lv_if_ne (tgt := 129) hx hb dX9_stone_119 (by decide) (fun c_91 => ?_) (fun c_91 => ?_)
                · replace c_91 := bI_t c_91
                  refine lv_iload hx hb dX9_stone_129 (lv_at hl 1 rfl) ?_
                  refine lv_bipush (v := 20) hx hb dX9_stone_131 (by decide) ?_
                  refine lv_icmp_lt (tgt := 143) hx hb dX9_stone_133 (by decide) (fun c_92 => ?_) (fun c_92 => ?_)
                  · refine lv_aload_n hx hb dX9_stone_143 rfl (lv_at hl 2 rfl) ?_
                    refine kM_v (As := []) (rest := []) (q0 := 0) ⟨hx, hb, hml, hown, hts⟩ (t_X9_keepPast l D cy a _ J (va_up (va_up I 9 (I 9)) 10 (I 10)) (va_up (va_up O 7 (O 7)) 8 (O 8)) R (va_up RO 2 (RO 2)) LL (Y ++ [(q_14, .inr (6, [va_rf (O 7), .int (nI n9), .int x0, .int x1, .int (bI x2), .int x3, .long (g_place x1 x2)]))])   ⟨hM.1, hi_16, hi_17, hi_18, hM.2.2.2.2.1, hM.2.2.2.2.2.1, hM.2.2.2.2.2.2.1, hM.2.2.2.2.2.2.2.1, hRO0, hRO1, hRO2, hRO3⟩ ) (cwV 0 hts gX9_stone_X9_keepPast rfl rfl rfl (by decide +kernel) ⟨Nat.le_of_ble_eq_true rfl, Nat.le_of_ble_eq_true rfl⟩) hK hN hP hD hS hA rfl rfl rfl hl.1 rfl (Nat.le_of_ble_eq_true rfl) dX9_stone_144 ⟨Nat.le_of_ble_eq_true rfl, Nat.le_of_ble_eq_true rfl⟩ (fun u H locs hw hP hD hS => ?_)
                    obtain ⟨w_94, w_95, Y_96, ⟨hi_97, hi_98, hs_99⟩, rfl⟩ := hw
                    have hi_100 : chO Y_96 (O 7) := chO_mono hs_99 hi_16
                    have hi_101 : layO Y_96 (O 8) := layO_mono hs_99 hi_17
                    have hmono_102 : ∀ c, c ∈ Y → c ∈ Y_96 := fun c h => hs_99 c (hmono_19 c h)
                    have hP : va_P D vwCl (CT cy a J (va_up (va_up I 9 w_94) 10 (I 10)) (va_up (va_up O 7 (O 7)) 8 (O 8)) R (va_up RO 2 w_95) (LL ++ Y_96)) H := hP
                    have hD : va_D A (CT cy a J (va_up (va_up I 9 w_94) 10 (I 10)) (va_up (va_up O 7 (O 7)) 8 (O 8)) R (va_up RO 2 w_95) (LL ++ Y_96)) := hD
                    refine lv_aload_n hx hb dX9_stone_147 rfl (lv_at hl 2 rfl) ?_
                    refine lv_aload hx hb dX9_stone_148 (lv_at hl 0 rfl) ?_
                    refine va_put (D := D) (ci := 8) (v := .ref q_14) (ty := .object "ParquetLayer$Stone") (C := RX9) (T := TX9) (N := 11) hx hb hts hi9 tyX9 tyX9_ok nmX9 hown hK hP hD hS 0 rfl rfl 7 (by decide) hw4 (fun _ h9 => h9) rfl (by decide +kernel) rfl rfl (Nat.le_of_ble_eq_true rfl) dX9_stone_150 (fun H locs hP hD hS => ?_)
                    have hP : va_P D vwCl (CT cy a J (va_up (va_up I 9 w_94) 10 (I 10)) (va_up (va_up O 7 (some q_14)) 8 (O 8)) R (va_up RO 2 w_95) (LL ++ Y_96)) H := hP
                    have hD : va_D A (CT cy a J (va_up (va_up I 9 w_94) 10 (I 10)) (va_up (va_up O 7 (some q_14)) 8 (O 8)) R (va_up RO 2 w_95) (LL ++ Y_96)) := hD
                    have hi_103 : chO Y_96 (some q_14) := (chO_mono hs_99 ⟨n9 + 1, q_14, _, _, _, _, _, _, rfl, mem_last, chain_mono hs_15 _ _ hch9⟩)
                    refine lv_aload_n hx hb dX9_stone_153 rfl (lv_at hl 2 rfl) ?_
                    refine lv_null hx hb dX9_stone_154 ?_
                    refine va_put (D := D) (ci := 8) (v := .null) (ty := .object "ParquetLayer$Laying") (C := RX9) (T := TX9) (N := 11) hx hb hts hi9 tyX9 tyX9_ok nmX9 hown hK hP hD hS 0 rfl rfl 8 (by decide) hw7 (fun _ h9 => h9) rfl (by decide +kernel) rfl rfl (Nat.le_of_ble_eq_true rfl) dX9_stone_155 (fun H locs hP hD hS => ?_)
                    have hP : va_P D vwCl (CT cy a J (va_up (va_up I 9 w_94) 10 (I 10)) (va_up (va_up O 7 (some q_14)) 8 none) R (va_up RO 2 w_95) (LL ++ Y_96)) H := hP
                    have hD : va_D A (CT cy a J (va_up (va_up I 9 w_94) 10 (I 10)) (va_up (va_up O 7 (some q_14)) 8 none) R (va_up RO 2 w_95) (LL ++ Y_96)) := hD
                    have hi_104 : layO Y_96 none := lay_none
                    refine lv_iload hx hb dX9_stone_158 (lv_at hl 1 rfl) ?_
                    exact wret_i hx hb hr hlocks (J, (va_up (va_up I 9 w_94) 10 (I 10)), (va_up (va_up O 7 (some q_14)) 8 none), R, (va_up RO 2 w_95), LL, Y_96) ⟨w_94, (I 10), (some q_14), none, w_95, Y_96, ⟨hi_97, hi_103, hi_104, hi_98, hmono_102⟩, rfl⟩ hP hD hS dX9_stone_160
                  · refine lv_aload_n hx hb dX9_stone_136 rfl (lv_at hl 2 rfl) ?_
                    refine lv_ldc (v := (-100005)) hx hb hown hw8 dX9_stone_137 ?_
                    refine kM_i (As := [.int (-100005)]) (rest := []) (q0 := 0) ⟨hx, hb, hml, hown, hts⟩ (t_X9_finding l D cy a _ J (va_up (va_up I 9 (I 9)) 10 (I 10)) (va_up (va_up O 7 (O 7)) 8 (O 8)) R (va_up RO 2 (RO 2)) LL (Y ++ [(q_14, .inr (6, [va_rf (O 7), .int (nI n9), .int x0, .int x1, .int (bI x2), .int x3, .long (g_place x1 x2)]))]) ((-100005) : Int32)   ) (cwV 1 hts gX9_stone_X9_finding rfl rfl rfl (by decide +kernel) ⟨Nat.le_of_ble_eq_true rfl, Nat.le_of_ble_eq_true rfl⟩) hK hN hP hD hS hA rfl rfl rfl hl.1 rfl (Nat.le_of_ble_eq_true rfl) dX9_stone_139 ⟨Nat.le_of_ble_eq_true rfl, Nat.le_of_ble_eq_true rfl⟩ (fun r_105 u H locs hw hP hD hS => ?_)
                    obtain ⟨w_106, rfl, rfl⟩ := hw
                    have hP : va_P D vwCl (CT cy a J (va_up (va_up I 9 (I 9)) 10 w_106) (va_up (va_up O 7 (O 7)) 8 (O 8)) R (va_up RO 2 (RO 2)) (LL ++ (Y ++ [(q_14, .inr (6, [va_rf (O 7), .int (nI n9), .int x0, .int x1, .int (bI x2), .int x3, .long (g_place x1 x2)]))]))) H := hP
                    have hD : va_D A (CT cy a J (va_up (va_up I 9 (I 9)) 10 w_106) (va_up (va_up O 7 (O 7)) 8 (O 8)) R (va_up RO 2 (RO 2)) (LL ++ (Y ++ [(q_14, .inr (6, [va_rf (O 7), .int (nI n9), .int x0, .int x1, .int (bI x2), .int x3, .long (g_place x1 x2)]))]))) := hD
                    refine W.widen (k := 2) (n := 10) (Nat.le_of_ble_eq_true rfl) (Nat.le_of_ble_eq_true rfl) ?_
                    exact wret_i hx hb hr hlocks (J, (va_up (va_up I 9 (I 9)) 10 w_106), (va_up (va_up O 7 (O 7)) 8 (O 8)), R, (va_up RO 2 (RO 2)), LL, Y ++ [(q_14, .inr (6, [va_rf (O 7), .int (nI n9), .int x0, .int x1, .int (bI x2), .int x3, .long (g_place x1 x2)]))]) ⟨(I 9), w_106, (O 7), (O 8), (RO 2), (Y ++ [(q_14, .inr (6, [va_rf (O 7), .int (nI n9), .int x0, .int x1, .int (bI x2), .int x3, .long (g_place x1 x2)]))]), ⟨hM.1, hi_16, hi_17, hi_18, hmono_19⟩, rfl⟩ hP hD hS dX9_stone_142
                · replace c_91 := bI_f c_91
                  refine lv_aload_n hx hb dX9_stone_122 rfl (lv_at hl 2 rfl) ?_
                  refine lv_ldc (v := (-100004)) hx hb hown hw11 dX9_stone_123 ?_
                  refine kM_i (As := [.int (-100004)]) (rest := []) (q0 := 0) ⟨hx, hb, hml, hown, hts⟩ (t_X9_finding l D cy a _ J (va_up (va_up I 9 (I 9)) 10 (I 10)) (va_up (va_up O 7 (O 7)) 8 (O 8)) R (va_up RO 2 (RO 2)) LL (Y ++ [(q_14, .inr (6, [va_rf (O 7), .int (nI n9), .int x0, .int x1, .int (bI x2), .int x3, .long (g_place x1 x2)]))]) ((-100004) : Int32)   ) (cwV 1 hts gX9_stone_X9_finding rfl rfl rfl (by decide +kernel) ⟨Nat.le_of_ble_eq_true rfl, Nat.le_of_ble_eq_true rfl⟩) hK hN hP hD hS hA rfl rfl rfl hl.1 rfl (Nat.le_of_ble_eq_true rfl) dX9_stone_125 ⟨Nat.le_of_ble_eq_true rfl, Nat.le_of_ble_eq_true rfl⟩ (fun r_107 u H locs hw hP hD hS => ?_)
                  obtain ⟨w_108, rfl, rfl⟩ := hw
                  have hP : va_P D vwCl (CT cy a J (va_up (va_up I 9 (I 9)) 10 w_108) (va_up (va_up O 7 (O 7)) 8 (O 8)) R (va_up RO 2 (RO 2)) (LL ++ (Y ++ [(q_14, .inr (6, [va_rf (O 7), .int (nI n9), .int x0, .int x1, .int (bI x2), .int x3, .long (g_place x1 x2)]))]))) H := hP
                  have hD : va_D A (CT cy a J (va_up (va_up I 9 (I 9)) 10 w_108) (va_up (va_up O 7 (O 7)) 8 (O 8)) R (va_up RO 2 (RO 2)) (LL ++ (Y ++ [(q_14, .inr (6, [va_rf (O 7), .int (nI n9), .int x0, .int x1, .int (bI x2), .int x3, .long (g_place x1 x2)]))]))) := hD
                  refine W.widen (k := 2) (n := 10) (Nat.le_of_ble_eq_true rfl) (Nat.le_of_ble_eq_true rfl) ?_
                  exact wret_i hx hb hr hlocks (J, (va_up (va_up I 9 (I 9)) 10 w_108), (va_up (va_up O 7 (O 7)) 8 (O 8)), R, (va_up RO 2 (RO 2)), LL, Y ++ [(q_14, .inr (6, [va_rf (O 7), .int (nI n9), .int x0, .int x1, .int (bI x2), .int x3, .long (g_place x1 x2)]))]) ⟨(I 9), w_108, (O 7), (O 8), (RO 2), (Y ++ [(q_14, .inr (6, [va_rf (O 7), .int (nI n9), .int x0, .int x1, .int (bI x2), .int x3, .long (g_place x1 x2)]))]), ⟨hM.1, hi_16, hi_17, hi_18, hmono_19⟩, rfl⟩ hP hD hS dX9_stone_128
            · replace c_69 := fun z => c_69 ((lg_cmp_eq _ _).mpr z)
              refine lv_aload_n hx hb dX9_stone_95 rfl (lv_at hl 2 rfl) ?_
              refine lv_ldc (v := (-100007)) hx hb hown hw12 dX9_stone_96 ?_
              refine kM_i (As := [.int (-100007)]) (rest := []) (q0 := 0) ⟨hx, hb, hml, hown, hts⟩ (t_X9_finding l D cy a _ J (va_up (va_up I 9 (I 9)) 10 (I 10)) (va_up (va_up O 7 (O 7)) 8 (O 8)) R (va_up RO 2 (RO 2)) LL (Y ++ [(q_14, .inr (6, [va_rf (O 7), .int (nI n9), .int x0, .int x1, .int (bI x2), .int x3, .long (g_place x1 x2)]))]) ((-100007) : Int32)   ) (cwV 1 hts gX9_stone_X9_finding rfl rfl rfl (by decide +kernel) ⟨Nat.le_of_ble_eq_true rfl, Nat.le_of_ble_eq_true rfl⟩) hK hN hP hD hS hA rfl rfl rfl hl.1 rfl (Nat.le_of_ble_eq_true rfl) dX9_stone_98 ⟨Nat.le_of_ble_eq_true rfl, Nat.le_of_ble_eq_true rfl⟩ (fun r_109 u H locs hw hP hD hS => ?_)
              obtain ⟨w_110, rfl, rfl⟩ := hw
              have hP : va_P D vwCl (CT cy a J (va_up (va_up I 9 (I 9)) 10 w_110) (va_up (va_up O 7 (O 7)) 8 (O 8)) R (va_up RO 2 (RO 2)) (LL ++ (Y ++ [(q_14, .inr (6, [va_rf (O 7), .int (nI n9), .int x0, .int x1, .int (bI x2), .int x3, .long (g_place x1 x2)]))]))) H := hP
              have hD : va_D A (CT cy a J (va_up (va_up I 9 (I 9)) 10 w_110) (va_up (va_up O 7 (O 7)) 8 (O 8)) R (va_up RO 2 (RO 2)) (LL ++ (Y ++ [(q_14, .inr (6, [va_rf (O 7), .int (nI n9), .int x0, .int x1, .int (bI x2), .int x3, .long (g_place x1 x2)]))]))) := hD
              refine W.widen (k := 2) (n := 10) (Nat.le_of_ble_eq_true rfl) (Nat.le_of_ble_eq_true rfl) ?_
              exact wret_i hx hb hr hlocks (J, (va_up (va_up I 9 (I 9)) 10 w_110), (va_up (va_up O 7 (O 7)) 8 (O 8)), R, (va_up RO 2 (RO 2)), LL, Y ++ [(q_14, .inr (6, [va_rf (O 7), .int (nI n9), .int x0, .int x1, .int (bI x2), .int x3, .long (g_place x1 x2)]))]) ⟨(I 9), w_110, (O 7), (O 8), (RO 2), (Y ++ [(q_14, .inr (6, [va_rf (O 7), .int (nI n9), .int x0, .int x1, .int (bI x2), .int x3, .long (g_place x1 x2)]))]), ⟨hM.1, hi_16, hi_17, hi_18, hmono_19⟩, rfl⟩ hP hD hS dX9_stone_101
        · replace c_11 := bI_f c_11
          refine lv_aload_n hx hb dX9_stone_39 rfl (lv_at hl 0 rfl) ?_
          refine lv_ldc (v := (-100003)) hx hb hown hw13 dX9_stone_40 ?_
          refine kM_i (As := [.int (-100003)]) (rest := []) (q0 := 0) ⟨hx, hb, hml, hown, hts⟩ (t_X9_finding l D cy a _ J (va_up (va_up I 9 (I 9)) 10 (I 10)) (va_up (va_up O 7 (O 7)) 8 (O 8)) R (va_up RO 2 (RO 2)) LL Y ((-100003) : Int32)   ) (cwV 1 hts gX9_stone_X9_finding rfl rfl rfl (by decide +kernel) ⟨Nat.le_of_ble_eq_true rfl, Nat.le_of_ble_eq_true rfl⟩) hK hN hP hD hS hA rfl rfl rfl hl.1 rfl (Nat.le_of_ble_eq_true rfl) dX9_stone_42 ⟨Nat.le_of_ble_eq_true rfl, Nat.le_of_ble_eq_true rfl⟩ (fun r_111 u H locs hw hP hD hS => ?_)
          obtain ⟨w_112, rfl, rfl⟩ := hw
          have hP : va_P D vwCl (CT cy a J (va_up (va_up I 9 (I 9)) 10 w_112) (va_up (va_up O 7 (O 7)) 8 (O 8)) R (va_up RO 2 (RO 2)) (LL ++ Y)) H := hP
          have hD : va_D A (CT cy a J (va_up (va_up I 9 (I 9)) 10 w_112) (va_up (va_up O 7 (O 7)) 8 (O 8)) R (va_up RO 2 (RO 2)) (LL ++ Y)) := hD
          refine W.widen (k := 2) (n := 10) (Nat.le_of_ble_eq_true rfl) (Nat.le_of_ble_eq_true rfl) ?_
          exact wret_i hx hb hr hlocks (J, (va_up (va_up I 9 (I 9)) 10 w_112), (va_up (va_up O 7 (O 7)) 8 (O 8)), R, (va_up RO 2 (RO 2)), LL, Y) ⟨(I 9), w_112, (O 7), (O 8), (RO 2), Y, ⟨hM.1, hM.2.1, hM.2.2.1, hM.2.2.2.1, (fun _ h => h)⟩, rfl⟩ hP hD hS dX9_stone_45
      · replace c_7 := bI_f c_7
        refine lv_aload_n hx hb dX9_stone_23 rfl (lv_at hl 0 rfl) ?_
        refine lv_ldc (v := (-100001)) hx hb hown hw0 dX9_stone_24 ?_
        refine kM_i (As := [.int (-100001)]) (rest := []) (q0 := 0) ⟨hx, hb, hml, hown, hts⟩ (t_X9_finding l D cy a _ J (va_up (va_up I 9 (I 9)) 10 (I 10)) (va_up (va_up O 7 (O 7)) 8 (O 8)) R (va_up RO 2 (RO 2)) LL Y ((-100001) : Int32)   ) (cwV 1 hts gX9_stone_X9_finding rfl rfl rfl (by decide +kernel) ⟨Nat.le_of_ble_eq_true rfl, Nat.le_of_ble_eq_true rfl⟩) hK hN hP hD hS hA rfl rfl rfl hl.1 rfl (Nat.le_of_ble_eq_true rfl) dX9_stone_26 ⟨Nat.le_of_ble_eq_true rfl, Nat.le_of_ble_eq_true rfl⟩ (fun r_113 u H locs hw hP hD hS => ?_)
        obtain ⟨w_114, rfl, rfl⟩ := hw
        have hP : va_P D vwCl (CT cy a J (va_up (va_up I 9 (I 9)) 10 w_114) (va_up (va_up O 7 (O 7)) 8 (O 8)) R (va_up RO 2 (RO 2)) (LL ++ Y)) H := hP
        have hD : va_D A (CT cy a J (va_up (va_up I 9 (I 9)) 10 w_114) (va_up (va_up O 7 (O 7)) 8 (O 8)) R (va_up RO 2 (RO 2)) (LL ++ Y)) := hD
        refine W.widen (k := 2) (n := 10) (Nat.le_of_ble_eq_true rfl) (Nat.le_of_ble_eq_true rfl) ?_
        exact wret_i hx hb hr hlocks (J, (va_up (va_up I 9 (I 9)) 10 w_114), (va_up (va_up O 7 (O 7)) 8 (O 8)), R, (va_up RO 2 (RO 2)), LL, Y) ⟨(I 9), w_114, (O 7), (O 8), (RO 2), Y, ⟨hM.1, hM.2.1, hM.2.2.1, hM.2.2.2.1, (fun _ h => h)⟩, rfl⟩ hP hD hS dX9_stone_29
theorem dX9_loose_0 : decode cX9_loose 0 = .ok (.aload_n 0, 1) := by decide +kernel
theorem dX9_loose_1 : decode cX9_loose 1 = .ok (.getfield 106, 3) := by decide +kernel
theorem dX9_loose_4 : decode cX9_loose 4 = .ok (.ifnonnull 10, 3) := by decide +kernel
theorem dX9_loose_14 : decode cX9_loose 14 = .ok (.aload_n 0, 1) := by decide +kernel
set_option maxRecDepth 20000 in
theorem ggX9_loose_X9_keepPast : GoodIn wsX9_loose wsX9_keepPast := goodIn_r _ [14, 15, 16, 17, 18, 19, 20, 1, 4, 21, 22, 23, 24, 25, 26, 27, 28, 29, 35, 36, 37, 38, 39, 40, 41, 42, 43, 44, 45, 53, 54, 55] (by decide +kernel) (by decide +kernel)
set_option maxRecDepth 20000 in
theorem gX9_loose_X9_keepPast : GoodIn wsX9_loose (wsV RX9 130 RX9 yX9_keepPast wsX9_keepPast) := goodIn_app (goodIn_of _ (by decide +kernel)) ggX9_loose_X9_keepPast
theorem dX9_loose_15 : decode cX9_loose 15 = .ok (.invokevirtual 130, 3) := by decide +kernel
theorem dX9_loose_18 : decode cX9_loose 18 = .ok (.aload_n 0, 1) := by decide +kernel
theorem dX9_loose_19 : decode cX9_loose 19 = .ok (.aload_n 0, 1) := by decide +kernel
theorem dX9_loose_20 : decode cX9_loose 20 = .ok (.getfield 106, 3) := by decide +kernel
theorem dX9_loose_23 : decode cX9_loose 23 = .ok (.getfield 138, 3) := by decide +kernel
theorem dX9_loose_26 : decode cX9_loose 26 = .ok (.putfield 106, 3) := by decide +kernel
theorem dX9_loose_29 : decode cX9_loose 29 = .ok (.aload_n 0, 1) := by decide +kernel
theorem dX9_loose_30 : decode cX9_loose 30 = .ok (.aconst_null, 1) := by decide +kernel
theorem dX9_loose_31 : decode cX9_loose 31 = .ok (.putfield 133, 3) := by decide +kernel
theorem dX9_loose_34 : decode cX9_loose 34 = .ok (.aload_n 0, 1) := by decide +kernel
set_option maxRecDepth 20000 in
theorem ggX9_loose_X9_stoneCount : GoodIn wsX9_loose wsX9_stoneCount := goodIn_r _ [33, 1, 34, 35, 36, 37, 38, 39, 40, 41, 42, 43, 44, 45, 46, 47, 48, 49, 50, 51, 52] (by decide +kernel) (by decide +kernel)
set_option maxRecDepth 20000 in
theorem gX9_loose_X9_stoneCount : GoodIn wsX9_loose (wsV RX9 100 RX9 yX9_stoneCount wsX9_stoneCount) := goodIn_app (goodIn_of _ (by decide +kernel)) ggX9_loose_X9_stoneCount
theorem dX9_loose_35 : decode cX9_loose 35 = .ok (.invokevirtual 100, 3) := by decide +kernel
theorem dX9_loose_38 : decode cX9_loose 38 = .ok (.ireturn, 1) := by decide +kernel
theorem dX9_loose_7 : decode cX9_loose 7 = .ok (.aload_n 0, 1) := by decide +kernel
theorem dX9_loose_8 : decode cX9_loose 8 = .ok (.ldc 137, 2) := by decide +kernel
set_option maxRecDepth 20000 in
theorem ggX9_loose_X9_finding : GoodIn wsX9_loose wsX9_finding := goodIn_r _ [9, 10, 35, 36, 37, 38, 39, 40, 41, 42, 43, 44, 45] (by decide +kernel) (by decide +kernel)
set_option maxRecDepth 20000 in
theorem gX9_loose_X9_finding : GoodIn wsX9_loose (wsV RX9 44 RX9 yX9_finding wsX9_finding) := goodIn_app (goodIn_of _ (by decide +kernel)) ggX9_loose_X9_finding
theorem dX9_loose_10 : decode cX9_loose 10 = .ok (.invokevirtual 44, 3) := by decide +kernel
theorem dX9_loose_13 : decode cX9_loose 13 = .ok (.ireturn, 1) := by decide +kernel
set_option maxRecDepth 20000 in
theorem ihX9_loose_7 : ∀ w ∈ u_ws RX7 TX7 7, w ∈ wsX9_loose := by decide +kernel
set_option maxRecDepth 20000 in
theorem ihX9_loose_9 : ∀ w ∈ u_ws RX9 TX9 11, w ∈ wsX9_loose := by decide +kernel
set_option maxHeartbeats 4000000 in
set_option maxRecDepth 100000 in
theorem t_X9_loose (l : Launch) (D : va_G) (cy : Nat → ClassId) (a : Nat → Nat) (sz : Nat) (J : Nat → Int64) (I : Nat → Int32) (O : Nat → Option Nat) (R : Nat → Nat → Int32) (RO : Nat → Nat → Option Nat) (LL : va_W) (Y : va_W)  (hM : CI a Y I O RO) : Met l yX9_loose wsX9_loose ({ frames := 3, cells := 1, slots := 3, locals := 65 }) (va_Pc [.ref (a 0)] (PW D cy sz (CT cy a J I O R RO (LL ++ Y)))) (va_Qi (fun r (u : TS) => ∃ (w0 : Int32), ∃ (w1 : Int32), ∃ (w2 : Option Nat), ∃ (w3 : Option Nat), ∃ (w4 : Nat → Option Nat), ∃ (Y9 : va_W), ((vp_in w0 21) ∧ (chO Y9 w2) ∧ (layO Y9 w3) ∧ (∀ i, i < 20 → pasO Y9 (w4 i)) ∧ (∀ c, c ∈ Y → c ∈ Y9)) ∧ u = (J, (va_up (va_up I 9 w0) 10 w1), (va_up (va_up O 7 w2) 8 w3), R, (va_up RO 2 w4), LL, Y9)) (BW D (va_A (CT cy a J I O R RO (LL ++ Y)) sz) (CTu cy a)) (va_A (CT cy a J I O R RO (LL ++ Y)) sz)) 1 3 (va_A (CT cy a J I O R RO (LL ++ Y)) sz) := by
  refine Met.ofW (cc := cX9_loose) (maxL := 1) (ret := (some .int)) (by decide) rfl ?_
  intro p e s m args below meth c s₁ B hml hv
  obtain ⟨rfl, rfl, hP, hK, hN, hD0⟩ := hv
  have hx := B.exec
  have hb := B.bytes
  have hr := B.returns
  have hts := atoms_spec (ws := wsX9_loose) B.pre
  have hown : s.vm.findClass RX9 = some m.cls := findClass_of_methodNamed B.named
  have hlocks := B.notSynchronized
  have hw0 := hts (.fieldLink RX9 106 "ParquetLayer" "latest" "LParquetLayer$Stone;") (by decide +kernel)
  have hw1 := hts (.fieldLink RX9 138 "ParquetLayer$Stone" "below" "LParquetLayer$Stone;") (by decide +kernel)
  have hw2 := hts (.fieldLink RX9 133 "ParquetLayer" "hand" "LParquetLayer$Laying;") (by decide +kernel)
  have hw3 := hts (.constant RX9 137 (-100006)) (by decide +kernel)
  have hi7 := ihX9_loose_7
  have hi9 := ihX9_loose_9
  have hD := hD0.self (sz := s.heap.size)
  generalize hAe : va_A (CT cy a J I O R RO (LL ++ Y)) s.heap.size = A at hD ⊢
  have hA : ∀ q : Nat, s.heap.size ≤ q → A q := fun q h => by rw [← hAe]; exact Or.inr h
  have hS : va_S A s.heap s.heap [] := va_S.rf
  have hl := lv_entry ([.ref (a 0)]) (n := 1) (Nat.le_of_ble_eq_true rfl)
  rw [lg_entry_eq]
  generalize (lg_sl ([.ref (a 0)]) ++ List.replicate (1 - (lg_sl ([.ref (a 0)])).length) Slot.unset).toArray = ls at hl ⊢
  have hl : lv_has ls 1 [(0, .ref (a 0))] := hl
  have hRO0 := hM.2.2.2.2.2.2.2.2.1
  have hRO1 := hM.2.2.2.2.2.2.2.2.2.1
  have hRO2 := hM.2.2.2.2.2.2.2.2.2.2.1
  have hRO3 := hM.2.2.2.2.2.2.2.2.2.2.2
  have hP : va_P D vwCl (CT cy a J (va_up (va_up I 9 (I 9)) 10 (I 10)) (va_up (va_up O 7 (O 7)) 8 (O 8)) R (va_up RO 2 (RO 2)) (LL ++ Y)) s.heap := hP
  have hD : va_D A (CT cy a J (va_up (va_up I 9 (I 9)) 10 (I 10)) (va_up (va_up O 7 (O 7)) 8 (O 8)) R (va_up RO 2 (RO 2)) (LL ++ Y)) := hD
  refine lv_aload_n hx hb dX9_loose_0 rfl (lv_at hl 0 rfl) ?_
  refine va_get (D := D) (ci := 8) (v := va_rf (O 7)) (C := RX9) (T := TX9) (N := 11) hx hb hts hi9 hown hK hP 0 rfl rfl 7 (by decide) hw0 (fun _ h9 => h9) rfl dX9_loose_1 ?_
  refine lv_ifnonnullO (tgt := 14) hx hb dX9_loose_4 (by decide) (fun c_1 => ?_) (fun c_1 => ?_)
  · obtain ⟨n_5, b_2, o_6, v_7, v_8, z_9, v_10, v_11, e_4, hm_3, hc_12⟩ := ch_some hM.2.1 c_1
    rw [e_4] at hP hD
    have hi_13 : chO Y (some b_2) := by rw [← e_4]; exact hM.2.1
    refine lv_aload_n hx hb dX9_loose_14 rfl (lv_at hl 0 rfl) ?_
    refine kM_v (As := []) (rest := []) (q0 := 0) ⟨hx, hb, hml, hown, hts⟩ (t_X9_keepPast l D cy a _ J (va_up (va_up I 9 (I 9)) 10 (I 10)) (va_up (va_up O 7 (some b_2)) 8 (O 8)) R (va_up RO 2 (RO 2)) LL Y   ⟨hM.1, hi_13, hM.2.2.1, hM.2.2.2.1, hM.2.2.2.2.1, hM.2.2.2.2.2.1, hM.2.2.2.2.2.2.1, hM.2.2.2.2.2.2.2.1, hRO0, hRO1, hRO2, hRO3⟩ ) (cwV 0 hts gX9_loose_X9_keepPast rfl rfl rfl (by decide +kernel) ⟨Nat.le_of_ble_eq_true rfl, Nat.le_of_ble_eq_true rfl⟩) hK hN hP hD hS hA rfl rfl rfl hl.1 rfl (Nat.le_of_ble_eq_true rfl) dX9_loose_15 ⟨Nat.le_of_ble_eq_true rfl, Nat.le_of_ble_eq_true rfl⟩ (fun u H locs hw hP hD hS => ?_)
    obtain ⟨w_15, w_16, Y_17, ⟨hi_18, hi_19, hs_20⟩, rfl⟩ := hw
    have hi_21 : chO Y_17 (some b_2) := chO_mono hs_20 hi_13
    have hi_22 : layO Y_17 (O 8) := layO_mono hs_20 hM.2.2.1
    have hmono_23 : ∀ c, c ∈ Y → c ∈ Y_17 := fun c h => hs_20 c ((fun _ h => h) c h)
    have hP : va_P D vwCl (CT cy a J (va_up (va_up I 9 w_15) 10 (I 10)) (va_up (va_up O 7 (some b_2)) 8 (O 8)) R (va_up RO 2 w_16) (LL ++ Y_17)) H := hP
    have hD : va_D A (CT cy a J (va_up (va_up I 9 w_15) 10 (I 10)) (va_up (va_up O 7 (some b_2)) 8 (O 8)) R (va_up RO 2 w_16) (LL ++ Y_17)) := hD
    refine lv_aload_n hx hb dX9_loose_18 rfl (lv_at hl 0 rfl) ?_
    refine lv_aload_n hx hb dX9_loose_19 rfl (lv_at hl 0 rfl) ?_
    refine va_get (D := D) (ci := 8) (v := .ref b_2) (C := RX9) (T := TX9) (N := 11) hx hb hts hi9 hown hK hP 0 rfl rfl 7 (by decide) hw0 (fun _ h9 => h9) rfl dX9_loose_20 ?_
    obtain ⟨k_24, hk_25⟩ : ∃ k : Nat, (CT cy a J (va_up (va_up I 9 w_15) 10 (I 10)) (va_up (va_up O 7 (some b_2)) 8 (O 8)) R (va_up RO 2 w_16) (LL ++ Y_17))[k]? = some (b_2, .inr (6, [va_rf o_6, .int (nI n_5), .int v_7, .int v_8, .int (bI z_9), .int v_10, .long v_11])) := pixT (hs_20 _ hm_3)
    refine va_get (D := D) (ci := 6) (v := va_rf o_6) (C := RX7) (T := TX7) (N := 7) hx hb hts hi7 hown hK hP k_24 hk_25 rfl 0 (by decide) hw1 (fun _ h9 => h9) rfl dX9_loose_23 ?_
    refine va_put (D := D) (ci := 8) (v := va_rf o_6) (ty := .object "ParquetLayer$Stone") (C := RX9) (T := TX9) (N := 11) hx hb hts hi9 tyX9 tyX9_ok nmX9 hown hK hP hD hS 0 rfl rfl 7 (by decide) hw0 (fun _ h9 => h9) rfl (by decide +kernel) (onar _) (ofit _) (Nat.le_of_ble_eq_true rfl) dX9_loose_26 (fun H locs hP hD hS => ?_)
    have hP : va_P D vwCl (CT cy a J (va_up (va_up I 9 w_15) 10 (I 10)) (va_up (va_up O 7 o_6) 8 (O 8)) R (va_up RO 2 w_16) (LL ++ Y_17)) H := hP
    have hD : va_D A (CT cy a J (va_up (va_up I 9 w_15) 10 (I 10)) (va_up (va_up O 7 o_6) 8 (O 8)) R (va_up RO 2 w_16) (LL ++ Y_17)) := hD
    have hi_26 : chO Y_17 o_6 := (chO_mono hs_20 hc_12)
    refine lv_aload_n hx hb dX9_loose_29 rfl (lv_at hl 0 rfl) ?_
    refine lv_null hx hb dX9_loose_30 ?_
    refine va_put (D := D) (ci := 8) (v := .null) (ty := .object "ParquetLayer$Laying") (C := RX9) (T := TX9) (N := 11) hx hb hts hi9 tyX9 tyX9_ok nmX9 hown hK hP hD hS 0 rfl rfl 8 (by decide) hw2 (fun _ h9 => h9) rfl (by decide +kernel) rfl rfl (Nat.le_of_ble_eq_true rfl) dX9_loose_31 (fun H locs hP hD hS => ?_)
    have hP : va_P D vwCl (CT cy a J (va_up (va_up I 9 w_15) 10 (I 10)) (va_up (va_up O 7 o_6) 8 none) R (va_up RO 2 w_16) (LL ++ Y_17)) H := hP
    have hD : va_D A (CT cy a J (va_up (va_up I 9 w_15) 10 (I 10)) (va_up (va_up O 7 o_6) 8 none) R (va_up RO 2 w_16) (LL ++ Y_17)) := hD
    have hi_27 : layO Y_17 none := lay_none
    refine lv_aload_n hx hb dX9_loose_34 rfl (lv_at hl 0 rfl) ?_
    refine kRa_i (As := []) (rest := []) (q0 := 0) ⟨hx, hb, hml, hown, hts⟩ (t_X9_stoneCount l D cy a _ J (va_up (va_up I 9 w_15) 10 (I 10)) (va_up (va_up O 7 o_6) 8 none) R (va_up RO 2 w_16) LL Y_17   ⟨hi_18, hi_26, hi_27, hi_19, hM.2.2.2.2.1, hM.2.2.2.2.2.1, hM.2.2.2.2.2.2.1, hM.2.2.2.2.2.2.2.1, hRO0, hRO1, hRO2, hRO3⟩) (cwV 0 hts gX9_loose_X9_stoneCount rfl rfl rfl (by decide +kernel) ⟨Nat.le_of_ble_eq_true rfl, Nat.le_of_ble_eq_true rfl⟩) hK hN hP hD rfl rfl rfl hl.1 rfl (Nat.le_of_ble_eq_true rfl) dX9_loose_35 ⟨Nat.le_of_ble_eq_true rfl, Nat.le_of_ble_eq_true rfl⟩ (fun r_28 hr_29 => ?_)
    exact wret_i hx hb hr hlocks (J, (va_up (va_up I 9 w_15) 10 (I 10)), (va_up (va_up O 7 o_6) 8 none), R, (va_up RO 2 w_16), LL, Y_17) ⟨w_15, (I 10), o_6, none, w_16, Y_17, ⟨hi_18, hi_26, hi_27, hi_19, hmono_23⟩, rfl⟩ hP hD hS dX9_loose_38
  · rw [c_1] at hP hD
    have hi_30 : chO Y none := by rw [← c_1]; exact hM.2.1
    refine lv_aload_n hx hb dX9_loose_7 rfl (lv_at hl 0 rfl) ?_
    refine lv_ldc (v := (-100006)) hx hb hown hw3 dX9_loose_8 ?_
    refine kM_i (As := [.int (-100006)]) (rest := []) (q0 := 0) ⟨hx, hb, hml, hown, hts⟩ (t_X9_finding l D cy a _ J (va_up (va_up I 9 (I 9)) 10 (I 10)) (va_up (va_up O 7 none) 8 (O 8)) R (va_up RO 2 (RO 2)) LL Y ((-100006) : Int32)   ) (cwV 1 hts gX9_loose_X9_finding rfl rfl rfl (by decide +kernel) ⟨Nat.le_of_ble_eq_true rfl, Nat.le_of_ble_eq_true rfl⟩) hK hN hP hD hS hA rfl rfl rfl hl.1 rfl (Nat.le_of_ble_eq_true rfl) dX9_loose_10 ⟨Nat.le_of_ble_eq_true rfl, Nat.le_of_ble_eq_true rfl⟩ (fun r_31 u H locs hw hP hD hS => ?_)
    obtain ⟨w_32, rfl, rfl⟩ := hw
    have hP : va_P D vwCl (CT cy a J (va_up (va_up I 9 (I 9)) 10 w_32) (va_up (va_up O 7 none) 8 (O 8)) R (va_up RO 2 (RO 2)) (LL ++ Y)) H := hP
    have hD : va_D A (CT cy a J (va_up (va_up I 9 (I 9)) 10 w_32) (va_up (va_up O 7 none) 8 (O 8)) R (va_up RO 2 (RO 2)) (LL ++ Y)) := hD
    refine W.widen (k := 1) (n := 3) (Nat.le_of_ble_eq_true rfl) (Nat.le_of_ble_eq_true rfl) ?_
    exact wret_i hx hb hr hlocks (J, (va_up (va_up I 9 (I 9)) 10 w_32), (va_up (va_up O 7 none) 8 (O 8)), R, (va_up RO 2 (RO 2)), LL, Y) ⟨(I 9), w_32, none, (O 8), (RO 2), Y, ⟨hM.1, hi_30, hM.2.2.1, hM.2.2.2.1, (fun _ h => h)⟩, rfl⟩ hP hD hS dX9_loose_13
theorem dX9_as_0 : decode cX9_as 0 = .ok (.aload_n 0, 1) := by decide +kernel
theorem dX9_as_1 : decode cX9_as 1 = .ok (.iload_n 1, 1) := by decide +kernel
set_option maxRecDepth 20000 in
theorem ggX9_as_X9_stoneOf : GoodIn wsX9_as wsX9_stoneOf := goodIn_r _ [9, 10, 4, 11, 30, 31, 32, 33, 34, 35, 36, 37, 38, 39, 40, 23, 24, 25, 26, 27, 28, 29] (by decide +kernel) (by decide +kernel)
set_option maxRecDepth 20000 in
theorem gX9_as_X9_stoneOf : GoodIn wsX9_as (wsV RX9 141 RX9 yX9_stoneOf wsX9_stoneOf) := goodIn_app (goodIn_of _ (by decide +kernel)) ggX9_as_X9_stoneOf
theorem dX9_as_2 : decode cX9_as 2 = .ok (.invokevirtual 141, 3) := by decide +kernel
theorem dX9_as_5 : decode cX9_as 5 = .ok (.astore_n 3, 1) := by decide +kernel
theorem dX9_as_6 : decode cX9_as 6 = .ok (.aload_n 3, 1) := by decide +kernel
theorem dX9_as_7 : decode cX9_as 7 = .ok (.ifnull 10, 3) := by decide +kernel
theorem dX9_as_17 : decode cX9_as 17 = .ok (.aload_n 0, 1) := by decide +kernel
theorem dX9_as_18 : decode cX9_as 18 = .ok (.ldc 43, 2) := by decide +kernel
set_option maxRecDepth 20000 in
theorem ggX9_as_X9_finding : GoodIn wsX9_as wsX9_finding := goodIn_r _ [18, 19, 30, 31, 32, 33, 34, 35, 36, 37, 38, 39, 40] (by decide +kernel) (by decide +kernel)
set_option maxRecDepth 20000 in
theorem gX9_as_X9_finding : GoodIn wsX9_as (wsV RX9 44 RX9 yX9_finding wsX9_finding) := goodIn_app (goodIn_of _ (by decide +kernel)) ggX9_as_X9_finding
theorem dX9_as_20 : decode cX9_as 20 = .ok (.invokevirtual 44, 3) := by decide +kernel
theorem dX9_as_23 : decode cX9_as 23 = .ok (.ireturn, 1) := by decide +kernel
theorem dX9_as_10 : decode cX9_as 10 = .ok (.iload_n 2, 1) := by decide +kernel
set_option maxRecDepth 20000 in
theorem ggX9_as_X9_isKind : GoodIn wsX9_as wsX9_isKind := goodIn_r _ [14] (by decide +kernel) (by decide +kernel)
set_option maxRecDepth 20000 in
theorem gX9_as_X9_isKind : GoodIn wsX9_as (va_wsS RX9 88 yX9_isKind wsX9_isKind) := goodIn_app (goodIn_of _ (by decide +kernel)) ggX9_as_X9_isKind
theorem dX9_as_11 : decode cX9_as 11 = .ok (.invokestatic 88, 3) := by decide +kernel
theorem dX9_as_14 : decode cX9_as 14 = .ok (.ifCond .ne 10, 3) := by decide +kernel
theorem dX9_as_24 : decode cX9_as 24 = .ok (.aload_n 3, 1) := by decide +kernel
theorem dX9_as_25 : decode cX9_as 25 = .ok (.getfield 145, 3) := by decide +kernel
theorem dX9_as_28 : decode cX9_as 28 = .ok (.iload_n 2, 1) := by decide +kernel
set_option maxRecDepth 20000 in
theorem ggX9_as_X9_isUnder : GoodIn wsX9_as wsX9_isUnder := goodIn_r _ [22] (by decide +kernel) (by decide +kernel)
set_option maxRecDepth 20000 in
theorem gX9_as_X9_isUnder : GoodIn wsX9_as (va_wsS RX9 149 yX9_isUnder wsX9_isUnder) := goodIn_app (goodIn_of _ (by decide +kernel)) ggX9_as_X9_isUnder
theorem dX9_as_29 : decode cX9_as 29 = .ok (.invokestatic 149, 3) := by decide +kernel
theorem dX9_as_32 : decode cX9_as 32 = .ok (.ifCond .ne 10, 3) := by decide +kernel
theorem dX9_as_42 : decode cX9_as 42 = .ok (.aload_n 3, 1) := by decide +kernel
theorem dX9_as_43 : decode cX9_as 43 = .ok (.getfield 152, 3) := by decide +kernel
theorem dX9_as_46 : decode cX9_as 46 = .ok (.ireturn, 1) := by decide +kernel
theorem dX9_as_35 : decode cX9_as 35 = .ok (.aload_n 0, 1) := by decide +kernel
theorem dX9_as_36 : decode cX9_as 36 = .ok (.ldc 128, 2) := by decide +kernel
theorem dX9_as_38 : decode cX9_as 38 = .ok (.invokevirtual 44, 3) := by decide +kernel
theorem dX9_as_41 : decode cX9_as 41 = .ok (.ireturn, 1) := by decide +kernel
set_option maxRecDepth 20000 in
theorem ihX9_as_7 : ∀ w ∈ u_ws RX7 TX7 7, w ∈ wsX9_as := by decide +kernel
set_option maxHeartbeats 4000000 in
set_option maxRecDepth 100000 in
theorem t_X9_as (l : Launch) (D : va_G) (cy : Nat → ClassId) (a : Nat → Nat) (sz : Nat) (J : Nat → Int64) (I : Nat → Int32) (O : Nat → Option Nat) (R : Nat → Nat → Int32) (RO : Nat → Nat → Option Nat) (LL : va_W) (Y : va_W) (x0 : Int32) (x1 : Int32) (hM : CI a Y I O RO) : Met l yX9_as wsX9_as ({ frames := 1, cells := 0, slots := 0, locals := 22 }) (va_Pc [.ref (a 0), .int x0, .int x1] (PW D cy sz (CT cy a J I O R RO (LL ++ Y)))) (va_Qi (fun r (u : TS) => ∃ (w0 : Int32), (True) ∧ u = (J, (va_up I 10 w0), O, R, RO, LL, Y)) (BW D (va_A (CT cy a J I O R RO (LL ++ Y)) sz) (CTu cy a)) (va_A (CT cy a J I O R RO (LL ++ Y)) sz)) 0 0 (va_A (CT cy a J I O R RO (LL ++ Y)) sz) := by
  refine Met.ofW (cc := cX9_as) (maxL := 4) (ret := (some .int)) (by decide) rfl ?_
  intro p e s m args below meth c s₁ B hml hv
  obtain ⟨rfl, rfl, hP, hK, hN, hD0⟩ := hv
  have hx := B.exec
  have hb := B.bytes
  have hr := B.returns
  have hts := atoms_spec (ws := wsX9_as) B.pre
  have hown : s.vm.findClass RX9 = some m.cls := findClass_of_methodNamed B.named
  have hlocks := B.notSynchronized
  have hw0 := hts (.constant RX9 43 (-100001)) (by decide +kernel)
  have hw1 := hts (.fieldLink RX9 145 "ParquetLayer$Stone" "kind" "I") (by decide +kernel)
  have hw2 := hts (.fieldLink RX9 152 "ParquetLayer$Stone" "number" "I") (by decide +kernel)
  have hw3 := hts (.constant RX9 128 (-100004)) (by decide +kernel)
  have hi7 := ihX9_as_7
  have hD := hD0.self (sz := s.heap.size)
  generalize hAe : va_A (CT cy a J I O R RO (LL ++ Y)) s.heap.size = A at hD ⊢
  have hA : ∀ q : Nat, s.heap.size ≤ q → A q := fun q h => by rw [← hAe]; exact Or.inr h
  have hS : va_S A s.heap s.heap [] := va_S.rf
  have hl := lv_entry ([.ref (a 0), .int x0, .int x1]) (n := 4) (Nat.le_of_ble_eq_true rfl)
  rw [lg_entry_eq]
  generalize (lg_sl ([.ref (a 0), .int x0, .int x1]) ++ List.replicate (4 - (lg_sl ([.ref (a 0), .int x0, .int x1])).length) Slot.unset).toArray = ls at hl ⊢
  have hl : lv_has ls 4 [(0, .ref (a 0)), (1, .int x0), (2, .int x1)] := hl
  have hRO0 := hM.2.2.2.2.2.2.2.2.1
  have hRO1 := hM.2.2.2.2.2.2.2.2.2.1
  have hRO2 := hM.2.2.2.2.2.2.2.2.2.2.1
  have hRO3 := hM.2.2.2.2.2.2.2.2.2.2.2
  have hP : va_P D vwCl (CT cy a J (va_up I 10 (I 10)) O R RO (LL ++ Y)) s.heap := hP
  have hD : va_D A (CT cy a J (va_up I 10 (I 10)) O R RO (LL ++ Y)) := hD
  refine lv_aload_n hx hb dX9_as_0 rfl (lv_at hl 0 rfl) ?_
  refine lv_iload_n hx hb dX9_as_1 rfl (lv_at hl 1 rfl) ?_
  refine kR_q (As := [.int x0]) (rest := []) (q0 := 0) ⟨hx, hb, hml, hown, hts⟩ (t_X9_stoneOf l D cy a _ J (va_up I 10 (I 10)) O R RO LL Y x0  ⟨hM.1, hM.2.1, hM.2.2.1, hM.2.2.2.1, hM.2.2.2.2.1, hM.2.2.2.2.2.1, hM.2.2.2.2.2.2.1, hM.2.2.2.2.2.2.2.1, hRO0, hRO1, hRO2, hRO3⟩) (cwV 1 hts gX9_as_X9_stoneOf rfl rfl rfl (by decide +kernel) ⟨Nat.le_of_ble_eq_true rfl, Nat.le_of_ble_eq_true rfl⟩) hK hN hP hD rfl rfl rfl hl.1 rfl (Nat.le_of_ble_eq_true rfl) dX9_as_2 ⟨Nat.le_of_ble_eq_true rfl, Nat.le_of_ble_eq_true rfl⟩ (fun r_1 hr_2 => ?_)
  refine lv_astore_nO (lv' := [(3, va_rf r_1), (0, .ref (a 0)), (1, .int x0), (2, .int x1)]) hx hb dX9_as_5 rfl hl (by decide) rfl (fun ls hl => ?_)
  refine lv_aload_nO hx hb dX9_as_6 rfl (lv_at hl 0 rfl) ?_
  refine lv_ifnullO (tgt := 17) hx hb dX9_as_7 (by decide) (fun c_3 => ?_) (fun c_3 => ?_)
  · subst c_3
    refine lv_aload_n hx hb dX9_as_17 rfl (lv_at hl 1 rfl) ?_
    refine lv_ldc (v := (-100001)) hx hb hown hw0 dX9_as_18 ?_
    refine kM_i (As := [.int (-100001)]) (rest := []) (q0 := 0) ⟨hx, hb, hml, hown, hts⟩ (t_X9_finding l D cy a _ J (va_up I 10 (I 10)) O R RO LL Y ((-100001) : Int32)   ) (cwV 1 hts gX9_as_X9_finding rfl rfl rfl (by decide +kernel) ⟨Nat.le_of_ble_eq_true rfl, Nat.le_of_ble_eq_true rfl⟩) hK hN hP hD hS hA rfl rfl rfl hl.1 rfl (Nat.le_of_ble_eq_true rfl) dX9_as_20 ⟨Nat.le_of_ble_eq_true rfl, Nat.le_of_ble_eq_true rfl⟩ (fun r_4 u H locs hw hP hD hS => ?_)
    obtain ⟨w_5, rfl, rfl⟩ := hw
    have hP : va_P D vwCl (CT cy a J (va_up I 10 w_5) O R RO (LL ++ Y)) H := hP
    have hD : va_D A (CT cy a J (va_up I 10 w_5) O R RO (LL ++ Y)) := hD
    exact wret_i hx hb hr hlocks (J, (va_up I 10 w_5), O, R, RO, LL, Y) ⟨w_5, trivial, rfl⟩ hP hD hS dX9_as_23
  · obtain ⟨b_6, o_10, v_9, v_11, v_12, z_13, v_14, v_15, e_8, hm_7⟩ := stq_some hr_2 c_3
    subst e_8
    refine lv_iload_n hx hb dX9_as_10 rfl (lv_at hl 3 rfl) ?_
    refine kS_i (As := [.int x1]) (rest := []) ⟨hx, hb, hml, hown, hts⟩ (c_X9_isKind l x1) (va_cwS 1 hts gX9_as_X9_isKind rfl rfl rfl (by decide +kernel) ⟨Nat.le_of_ble_eq_true rfl, Nat.le_of_ble_eq_true rfl⟩) rfl hl.1 rfl (Nat.le_of_ble_eq_true rfl) dX9_as_11 ⟨Nat.le_of_ble_eq_true rfl, Nat.le_of_ble_eq_true rfl⟩ ?_
    refine lv_if_ne (tgt := 24) hx hb dX9_as_14 (by decide) (fun c_16 => ?_) (fun c_16 => ?_)
    · replace c_16 := bI_t c_16
      refine lv_aload_n hx hb dX9_as_24 rfl (lv_at hl 0 rfl) ?_
      obtain ⟨k_17, hk_18⟩ : ∃ k : Nat, (CT cy a J (va_up I 10 (I 10)) O R RO (LL ++ Y))[k]? = some (b_6, .inr (6, [va_rf o_10, .int v_9, .int v_11, .int v_12, .int (bI z_13), .int v_14, .long v_15])) := pixT hm_7
      refine va_get (D := D) (ci := 6) (v := .int v_11) (C := RX7) (T := TX7) (N := 7) hx hb hts hi7 hown hK hP k_17 hk_18 rfl 2 (by decide) hw1 (fun _ h9 => h9) rfl dX9_as_25 ?_
      refine lv_iload_n hx hb dX9_as_28 rfl (lv_at hl 3 rfl) ?_
      refine kS_i (As := [.int v_11, .int x1]) (rest := []) ⟨hx, hb, hml, hown, hts⟩ (c_X9_isUnder l v_11 x1) (va_cwS 2 hts gX9_as_X9_isUnder rfl rfl rfl (by decide +kernel) ⟨Nat.le_of_ble_eq_true rfl, Nat.le_of_ble_eq_true rfl⟩) rfl hl.1 rfl (Nat.le_of_ble_eq_true rfl) dX9_as_29 ⟨Nat.le_of_ble_eq_true rfl, Nat.le_of_ble_eq_true rfl⟩ ?_
      refine lv_if_ne (tgt := 42) hx hb dX9_as_32 (by decide) (fun c_19 => ?_) (fun c_19 => ?_)
      · replace c_19 := bI_t c_19
        refine lv_aload_n hx hb dX9_as_42 rfl (lv_at hl 0 rfl) ?_
        obtain ⟨k_20, hk_21⟩ : ∃ k : Nat, (CT cy a J (va_up I 10 (I 10)) O R RO (LL ++ Y))[k]? = some (b_6, .inr (6, [va_rf o_10, .int v_9, .int v_11, .int v_12, .int (bI z_13), .int v_14, .long v_15])) := pixT hm_7
        refine va_get (D := D) (ci := 6) (v := .int v_9) (C := RX7) (T := TX7) (N := 7) hx hb hts hi7 hown hK hP k_20 hk_21 rfl 1 (by decide) hw2 (fun _ h9 => h9) rfl dX9_as_43 ?_
        exact wret_i hx hb hr hlocks (J, (va_up I 10 (I 10)), O, R, RO, LL, Y) ⟨(I 10), trivial, rfl⟩ hP hD hS dX9_as_46
      · replace c_19 := bI_f c_19
        refine lv_aload_n hx hb dX9_as_35 rfl (lv_at hl 1 rfl) ?_
        refine lv_ldc (v := (-100004)) hx hb hown hw3 dX9_as_36 ?_
        refine kM_i (As := [.int (-100004)]) (rest := []) (q0 := 0) ⟨hx, hb, hml, hown, hts⟩ (t_X9_finding l D cy a _ J (va_up I 10 (I 10)) O R RO LL Y ((-100004) : Int32)   ) (cwV 1 hts gX9_as_X9_finding rfl rfl rfl (by decide +kernel) ⟨Nat.le_of_ble_eq_true rfl, Nat.le_of_ble_eq_true rfl⟩) hK hN hP hD hS hA rfl rfl rfl hl.1 rfl (Nat.le_of_ble_eq_true rfl) dX9_as_38 ⟨Nat.le_of_ble_eq_true rfl, Nat.le_of_ble_eq_true rfl⟩ (fun r_22 u H locs hw hP hD hS => ?_)
        obtain ⟨w_23, rfl, rfl⟩ := hw
        have hP : va_P D vwCl (CT cy a J (va_up I 10 w_23) O R RO (LL ++ Y)) H := hP
        have hD : va_D A (CT cy a J (va_up I 10 w_23) O R RO (LL ++ Y)) := hD
        exact wret_i hx hb hr hlocks (J, (va_up I 10 w_23), O, R, RO, LL, Y) ⟨w_23, trivial, rfl⟩ hP hD hS dX9_as_41
    · replace c_16 := bI_f c_16
      refine lv_aload_n hx hb dX9_as_17 rfl (lv_at hl 1 rfl) ?_
      refine lv_ldc (v := (-100001)) hx hb hown hw0 dX9_as_18 ?_
      refine kM_i (As := [.int (-100001)]) (rest := []) (q0 := 0) ⟨hx, hb, hml, hown, hts⟩ (t_X9_finding l D cy a _ J (va_up I 10 (I 10)) O R RO LL Y ((-100001) : Int32)   ) (cwV 1 hts gX9_as_X9_finding rfl rfl rfl (by decide +kernel) ⟨Nat.le_of_ble_eq_true rfl, Nat.le_of_ble_eq_true rfl⟩) hK hN hP hD hS hA rfl rfl rfl hl.1 rfl (Nat.le_of_ble_eq_true rfl) dX9_as_20 ⟨Nat.le_of_ble_eq_true rfl, Nat.le_of_ble_eq_true rfl⟩ (fun r_24 u H locs hw hP hD hS => ?_)
      obtain ⟨w_25, rfl, rfl⟩ := hw
      have hP : va_P D vwCl (CT cy a J (va_up I 10 w_25) O R RO (LL ++ Y)) H := hP
      have hD : va_D A (CT cy a J (va_up I 10 w_25) O R RO (LL ++ Y)) := hD
      exact wret_i hx hb hr hlocks (J, (va_up I 10 w_25), O, R, RO, LL, Y) ⟨w_25, trivial, rfl⟩ hP hD hS dX9_as_23
theorem dX9_told_0 : decode cX9_told 0 = .ok (.aload_n 0, 1) := by decide +kernel
theorem dX9_told_1 : decode cX9_told 1 = .ok (.iload_n 1, 1) := by decide +kernel
set_option maxRecDepth 20000 in
theorem ggX9_told_X9_stoneOf : GoodIn wsX9_told wsX9_stoneOf := goodIn_r _ [11, 12, 13, 14, 41, 42, 43, 44, 45, 46, 47, 48, 49, 50, 51, 34, 35, 36, 37, 38, 39, 40] (by decide +kernel) (by decide +kernel)
set_option maxRecDepth 20000 in
theorem gX9_told_X9_stoneOf : GoodIn wsX9_told (wsV RX9 141 RX9 yX9_stoneOf wsX9_stoneOf) := goodIn_app (goodIn_of _ (by decide +kernel)) ggX9_told_X9_stoneOf
theorem dX9_told_2 : decode cX9_told 2 = .ok (.invokevirtual 141, 3) := by decide +kernel
theorem dX9_told_5 : decode cX9_told 5 = .ok (.astore_n 3, 1) := by decide +kernel
theorem dX9_told_6 : decode cX9_told 6 = .ok (.aload_n 3, 1) := by decide +kernel
theorem dX9_told_7 : decode cX9_told 7 = .ok (.ifnonnull 10, 3) := by decide +kernel
theorem dX9_told_17 : decode cX9_told 17 = .ok (.iload_n 2, 1) := by decide +kernel
theorem dX9_told_18 : decode cX9_told 18 = .ok (.tableswitch 87 0 4 #[34, 39, 44, 52, 57], 34) := by decide +kernel
theorem dX9_told_52 : decode cX9_told 52 = .ok (.aload_n 3, 1) := by decide +kernel
theorem dX9_told_53 : decode cX9_told 53 = .ok (.getfield 145, 3) := by decide +kernel
theorem dX9_told_56 : decode cX9_told 56 = .ok (.ireturn, 1) := by decide +kernel
theorem dX9_told_57 : decode cX9_told 57 = .ok (.aload_n 3, 1) := by decide +kernel
theorem dX9_told_58 : decode cX9_told 58 = .ok (.getfield 155, 3) := by decide +kernel
theorem dX9_told_61 : decode cX9_told 61 = .ok (.ireturn, 1) := by decide +kernel
theorem dX9_told_62 : decode cX9_told 62 = .ok (.aload_n 3, 1) := by decide +kernel
theorem dX9_told_63 : decode cX9_told 63 = .ok (.getfield 158, 3) := by decide +kernel
set_option maxRecDepth 20000 in
theorem ggX9_told_X9_asNumber : GoodIn wsX9_told wsX9_asNumber := goodIn_r _ [22] (by decide +kernel) (by decide +kernel)
set_option maxRecDepth 20000 in
theorem gX9_told_X9_asNumber : GoodIn wsX9_told (va_wsS RX9 70 yX9_asNumber wsX9_asNumber) := goodIn_app (goodIn_of _ (by decide +kernel)) ggX9_told_X9_asNumber
theorem dX9_told_66 : decode cX9_told 66 = .ok (.invokestatic 70, 3) := by decide +kernel
theorem dX9_told_69 : decode cX9_told 69 = .ok (.ireturn, 1) := by decide +kernel
theorem dX9_told_70 : decode cX9_told 70 = .ok (.aload_n 3, 1) := by decide +kernel
theorem dX9_told_71 : decode cX9_told 71 = .ok (.getfield 162, 3) := by decide +kernel
theorem dX9_told_74 : decode cX9_told 74 = .ok (.ireturn, 1) := by decide +kernel
theorem dX9_told_75 : decode cX9_told 75 = .ok (.aload_n 0, 1) := by decide +kernel
theorem dX9_told_76 : decode cX9_told 76 = .ok (.getfield 133, 3) := by decide +kernel
theorem dX9_told_79 : decode cX9_told 79 = .ok (.ifnonnull 7, 3) := by decide +kernel
theorem dX9_told_86 : decode cX9_told 86 = .ok (.aload_n 0, 1) := by decide +kernel
theorem dX9_told_87 : decode cX9_told 87 = .ok (.getfield 133, 3) := by decide +kernel
theorem dX9_told_90 : decode cX9_told 90 = .ok (.aload_n 3, 1) := by decide +kernel
theorem dX9_told_91 : decode cX9_told 91 = .ok (.getfield 155, 3) := by decide +kernel
theorem dX9_told_94 : decode cX9_told 94 = .ok (.aload_n 3, 1) := by decide +kernel
theorem dX9_told_95 : decode cX9_told 95 = .ok (.getfield 158, 3) := by decide +kernel
set_option maxRecDepth 20000 in
theorem ggX9_told_X3_hasStone : GoodIn wsX9_told wsX3_hasStone := goodIn_r _ [27, 28, 29, 30, 31, 32, 33, 52, 53, 54] (by decide +kernel) (by decide +kernel)
set_option maxRecDepth 20000 in
theorem gX9_told_X3_hasStone : GoodIn wsX9_told (wsV RX9 165 RX3 yX3_hasStone wsX3_hasStone) := goodIn_app (goodIn_of _ (by decide +kernel)) ggX9_told_X3_hasStone
theorem dX9_told_98 : decode cX9_told 98 = .ok (.invokevirtual 165, 3) := by decide +kernel
theorem dX9_told_101 : decode cX9_told 101 = .ok (.invokestatic 70, 3) := by decide +kernel
theorem dX9_told_104 : decode cX9_told 104 = .ok (.ireturn, 1) := by decide +kernel
theorem dX9_told_82 : decode cX9_told 82 = .ok (.iconst (-1), 1) := by decide +kernel
theorem dX9_told_83 : decode cX9_told 83 = .ok (.goto 21, 3) := by decide +kernel
theorem dX9_told_105 : decode cX9_told 105 = .ok (.aload_n 0, 1) := by decide +kernel
theorem dX9_told_106 : decode cX9_told 106 = .ok (.ldc 43, 2) := by decide +kernel
set_option maxRecDepth 20000 in
theorem ggX9_told_X9_finding : GoodIn wsX9_told wsX9_finding := goodIn_r _ [18, 19, 41, 42, 43, 44, 45, 46, 47, 48, 49, 50, 51] (by decide +kernel) (by decide +kernel)
set_option maxRecDepth 20000 in
theorem gX9_told_X9_finding : GoodIn wsX9_told (wsV RX9 44 RX9 yX9_finding wsX9_finding) := goodIn_app (goodIn_of _ (by decide +kernel)) ggX9_told_X9_finding
theorem dX9_told_108 : decode cX9_told 108 = .ok (.invokevirtual 44, 3) := by decide +kernel
theorem dX9_told_111 : decode cX9_told 111 = .ok (.ireturn, 1) := by decide +kernel
theorem dX9_told_10 : decode cX9_told 10 = .ok (.aload_n 0, 1) := by decide +kernel
theorem dX9_told_11 : decode cX9_told 11 = .ok (.ldc 43, 2) := by decide +kernel
theorem dX9_told_13 : decode cX9_told 13 = .ok (.invokevirtual 44, 3) := by decide +kernel
theorem dX9_told_16 : decode cX9_told 16 = .ok (.ireturn, 1) := by decide +kernel
set_option maxRecDepth 20000 in
theorem ihX9_told_7 : ∀ w ∈ u_ws RX7 TX7 7, w ∈ wsX9_told := by decide +kernel
set_option maxRecDepth 20000 in
theorem ihX9_told_9 : ∀ w ∈ u_ws RX9 TX9 11, w ∈ wsX9_told := by decide +kernel
set_option maxHeartbeats 4000000 in
set_option maxRecDepth 100000 in
theorem t_X9_told (l : Launch) (D : va_G) (cy : Nat → ClassId) (a : Nat → Nat) (sz : Nat) (J : Nat → Int64) (I : Nat → Int32) (O : Nat → Option Nat) (R : Nat → Nat → Int32) (RO : Nat → Nat → Option Nat) (LL : va_W) (Y : va_W) (x0 : Int32) (x1 : Int32) (hM : CI a Y I O RO) : Met l yX9_told wsX9_told ({ frames := 2, cells := 0, slots := 0, locals := 44 }) (va_Pc [.ref (a 0), .int x0, .int x1] (PW D cy sz (CT cy a J I O R RO (LL ++ Y)))) (va_Qi (fun r (u : TS) => ∃ (w0 : Int32), ∃ (w1 : Option Nat), ((layO Y w1)) ∧ u = (J, (va_up I 10 w0), (va_up O 8 w1), R, RO, LL, Y)) (BW D (va_A (CT cy a J I O R RO (LL ++ Y)) sz) (CTu cy a)) (va_A (CT cy a J I O R RO (LL ++ Y)) sz)) 0 0 (va_A (CT cy a J I O R RO (LL ++ Y)) sz) := by
  refine Met.ofW (cc := cX9_told) (maxL := 4) (ret := (some .int)) (by decide) rfl ?_
  intro p e s m args below meth c s₁ B hml hv
  obtain ⟨rfl, rfl, hP, hK, hN, hD0⟩ := hv
  have hx := B.exec
  have hb := B.bytes
  have hr := B.returns
  have hts := atoms_spec (ws := wsX9_told) B.pre
  have hown : s.vm.findClass RX9 = some m.cls := findClass_of_methodNamed B.named
  have hlocks := B.notSynchronized
  have hw0 := hts (.fieldLink RX9 145 "ParquetLayer$Stone" "kind" "I") (by decide +kernel)
  have hw1 := hts (.fieldLink RX9 155 "ParquetLayer$Stone" "field" "I") (by decide +kernel)
  have hw2 := hts (.fieldLink RX9 158 "ParquetLayer$Stone" "across" "Z") (by decide +kernel)
  have hw3 := hts (.fieldLink RX9 162 "ParquetLayer$Stone" "colour" "I") (by decide +kernel)
  have hw4 := hts (.fieldLink RX9 133 "ParquetLayer" "hand" "LParquetLayer$Laying;") (by decide +kernel)
  have hw5 := hts (.constant RX9 43 (-100001)) (by decide +kernel)
  have hi7 := ihX9_told_7
  have hi9 := ihX9_told_9
  have hD := hD0.self (sz := s.heap.size)
  generalize hAe : va_A (CT cy a J I O R RO (LL ++ Y)) s.heap.size = A at hD ⊢
  have hA : ∀ q : Nat, s.heap.size ≤ q → A q := fun q h => by rw [← hAe]; exact Or.inr h
  have hS : va_S A s.heap s.heap [] := va_S.rf
  have hl := lv_entry ([.ref (a 0), .int x0, .int x1]) (n := 4) (Nat.le_of_ble_eq_true rfl)
  rw [lg_entry_eq]
  generalize (lg_sl ([.ref (a 0), .int x0, .int x1]) ++ List.replicate (4 - (lg_sl ([.ref (a 0), .int x0, .int x1])).length) Slot.unset).toArray = ls at hl ⊢
  have hl : lv_has ls 4 [(0, .ref (a 0)), (1, .int x0), (2, .int x1)] := hl
  have hRO0 := hM.2.2.2.2.2.2.2.2.1
  have hRO1 := hM.2.2.2.2.2.2.2.2.2.1
  have hRO2 := hM.2.2.2.2.2.2.2.2.2.2.1
  have hRO3 := hM.2.2.2.2.2.2.2.2.2.2.2
  have hP : va_P D vwCl (CT cy a J (va_up I 10 (I 10)) (va_up O 8 (O 8)) R RO (LL ++ Y)) s.heap := hP
  have hD : va_D A (CT cy a J (va_up I 10 (I 10)) (va_up O 8 (O 8)) R RO (LL ++ Y)) := hD
  refine lv_aload_n hx hb dX9_told_0 rfl (lv_at hl 0 rfl) ?_
  refine lv_iload_n hx hb dX9_told_1 rfl (lv_at hl 1 rfl) ?_
  refine kR_q (As := [.int x0]) (rest := []) (q0 := 0) ⟨hx, hb, hml, hown, hts⟩ (t_X9_stoneOf l D cy a _ J (va_up I 10 (I 10)) (va_up O 8 (O 8)) R RO LL Y x0  ⟨hM.1, hM.2.1, hM.2.2.1, hM.2.2.2.1, hM.2.2.2.2.1, hM.2.2.2.2.2.1, hM.2.2.2.2.2.2.1, hM.2.2.2.2.2.2.2.1, hRO0, hRO1, hRO2, hRO3⟩) (cwV 1 hts gX9_told_X9_stoneOf rfl rfl rfl (by decide +kernel) ⟨Nat.le_of_ble_eq_true rfl, Nat.le_of_ble_eq_true rfl⟩) hK hN hP hD rfl rfl rfl hl.1 rfl (Nat.le_of_ble_eq_true rfl) dX9_told_2 ⟨Nat.le_of_ble_eq_true rfl, Nat.le_of_ble_eq_true rfl⟩ (fun r_1 hr_2 => ?_)
  refine lv_astore_nO (lv' := [(3, va_rf r_1), (0, .ref (a 0)), (1, .int x0), (2, .int x1)]) hx hb dX9_told_5 rfl hl (by decide) rfl (fun ls hl => ?_)
  refine lv_aload_nO hx hb dX9_told_6 rfl (lv_at hl 0 rfl) ?_
  refine lv_ifnonnullO (tgt := 17) hx hb dX9_told_7 (by decide) (fun c_3 => ?_) (fun c_3 => ?_)
  · obtain ⟨b_4, o_8, v_7, v_9, v_10, z_11, v_12, v_13, e_6, hm_5⟩ := stq_some hr_2 c_3
    subst e_6
    refine lv_iload_n hx hb dX9_told_17 rfl (lv_at hl 3 rfl) ?_
    by_cases c_14 : x1 = 0
    · refine lv_tableIn (off := 34) (tgt := 52) hx hb dX9_told_18 (by rw [c_14]; decide) (by rw [c_14]; decide) (by rw [c_14]; rfl) (by decide) ?_
      refine lv_aload_n hx hb dX9_told_52 rfl (lv_at hl 0 rfl) ?_
      obtain ⟨k_15, hk_16⟩ : ∃ k : Nat, (CT cy a J (va_up I 10 (I 10)) (va_up O 8 (O 8)) R RO (LL ++ Y))[k]? = some (b_4, .inr (6, [va_rf o_8, .int v_7, .int v_9, .int v_10, .int (bI z_11), .int v_12, .long v_13])) := pixT hm_5
      refine va_get (D := D) (ci := 6) (v := .int v_9) (C := RX7) (T := TX7) (N := 7) hx hb hts hi7 hown hK hP k_15 hk_16 rfl 2 (by decide) hw0 (fun _ h9 => h9) rfl dX9_told_53 ?_
      exact wret_i hx hb hr hlocks (J, (va_up I 10 (I 10)), (va_up O 8 (O 8)), R, RO, LL, Y) ⟨(I 10), (O 8), hM.2.2.1, rfl⟩ hP hD hS dX9_told_56
    by_cases c_17 : x1 = 1
    · refine lv_tableIn (off := 39) (tgt := 57) hx hb dX9_told_18 (by rw [c_17]; decide) (by rw [c_17]; decide) (by rw [c_17]; rfl) (by decide) ?_
      refine lv_aload_n hx hb dX9_told_57 rfl (lv_at hl 0 rfl) ?_
      obtain ⟨k_18, hk_19⟩ : ∃ k : Nat, (CT cy a J (va_up I 10 (I 10)) (va_up O 8 (O 8)) R RO (LL ++ Y))[k]? = some (b_4, .inr (6, [va_rf o_8, .int v_7, .int v_9, .int v_10, .int (bI z_11), .int v_12, .long v_13])) := pixT hm_5
      refine va_get (D := D) (ci := 6) (v := .int v_10) (C := RX7) (T := TX7) (N := 7) hx hb hts hi7 hown hK hP k_18 hk_19 rfl 3 (by decide) hw1 (fun _ h9 => h9) rfl dX9_told_58 ?_
      exact wret_i hx hb hr hlocks (J, (va_up I 10 (I 10)), (va_up O 8 (O 8)), R, RO, LL, Y) ⟨(I 10), (O 8), hM.2.2.1, rfl⟩ hP hD hS dX9_told_61
    by_cases c_20 : x1 = 2
    · refine lv_tableIn (off := 44) (tgt := 62) hx hb dX9_told_18 (by rw [c_20]; decide) (by rw [c_20]; decide) (by rw [c_20]; rfl) (by decide) ?_
      refine lv_aload_n hx hb dX9_told_62 rfl (lv_at hl 0 rfl) ?_
      obtain ⟨k_21, hk_22⟩ : ∃ k : Nat, (CT cy a J (va_up I 10 (I 10)) (va_up O 8 (O 8)) R RO (LL ++ Y))[k]? = some (b_4, .inr (6, [va_rf o_8, .int v_7, .int v_9, .int v_10, .int (bI z_11), .int v_12, .long v_13])) := pixT hm_5
      refine va_get (D := D) (ci := 6) (v := .int (bI z_11)) (C := RX7) (T := TX7) (N := 7) hx hb hts hi7 hown hK hP k_21 hk_22 rfl 4 (by decide) hw2 (fun _ h9 => h9) rfl dX9_told_63 ?_
      refine kS_i (As := [.int (bI z_11)]) (rest := []) ⟨hx, hb, hml, hown, hts⟩ (c_X9_asNumber l z_11) (va_cwS 1 hts gX9_told_X9_asNumber rfl rfl rfl (by decide +kernel) ⟨Nat.le_of_ble_eq_true rfl, Nat.le_of_ble_eq_true rfl⟩) rfl hl.1 rfl (Nat.le_of_ble_eq_true rfl) dX9_told_66 ⟨Nat.le_of_ble_eq_true rfl, Nat.le_of_ble_eq_true rfl⟩ ?_
      exact wret_i hx hb hr hlocks (J, (va_up I 10 (I 10)), (va_up O 8 (O 8)), R, RO, LL, Y) ⟨(I 10), (O 8), hM.2.2.1, rfl⟩ hP hD hS dX9_told_69
    by_cases c_23 : x1 = 3
    · refine lv_tableIn (off := 52) (tgt := 70) hx hb dX9_told_18 (by rw [c_23]; decide) (by rw [c_23]; decide) (by rw [c_23]; rfl) (by decide) ?_
      refine lv_aload_n hx hb dX9_told_70 rfl (lv_at hl 0 rfl) ?_
      obtain ⟨k_24, hk_25⟩ : ∃ k : Nat, (CT cy a J (va_up I 10 (I 10)) (va_up O 8 (O 8)) R RO (LL ++ Y))[k]? = some (b_4, .inr (6, [va_rf o_8, .int v_7, .int v_9, .int v_10, .int (bI z_11), .int v_12, .long v_13])) := pixT hm_5
      refine va_get (D := D) (ci := 6) (v := .int v_12) (C := RX7) (T := TX7) (N := 7) hx hb hts hi7 hown hK hP k_24 hk_25 rfl 5 (by decide) hw3 (fun _ h9 => h9) rfl dX9_told_71 ?_
      exact wret_i hx hb hr hlocks (J, (va_up I 10 (I 10)), (va_up O 8 (O 8)), R, RO, LL, Y) ⟨(I 10), (O 8), hM.2.2.1, rfl⟩ hP hD hS dX9_told_74
    by_cases c_26 : x1 = 4
    · refine lv_tableIn (off := 57) (tgt := 75) hx hb dX9_told_18 (by rw [c_26]; decide) (by rw [c_26]; decide) (by rw [c_26]; rfl) (by decide) ?_
      refine lv_aload_n hx hb dX9_told_75 rfl (lv_at hl 1 rfl) ?_
      refine va_get (D := D) (ci := 8) (v := va_rf (O 8)) (C := RX9) (T := TX9) (N := 11) hx hb hts hi9 hown hK hP 0 rfl rfl 8 (by decide) hw4 (fun _ h9 => h9) rfl dX9_told_76 ?_
      refine lv_ifnonnullO (tgt := 86) hx hb dX9_told_79 (by decide) (fun c_27 => ?_) (fun c_27 => ?_)
      · obtain ⟨b_28, v_31, v_32, v_33, e_30, hm_29⟩ := lay_some hM.2.2.1 c_27
        rw [e_30] at hP hD
        have hi_34 : layO Y (some b_28) := by rw [← e_30]; exact hM.2.2.1
        refine lv_aload_n hx hb dX9_told_86 rfl (lv_at hl 1 rfl) ?_
        refine va_get (D := D) (ci := 8) (v := .ref b_28) (C := RX9) (T := TX9) (N := 11) hx hb hts hi9 hown hK hP 0 rfl rfl 8 (by decide) hw4 (fun _ h9 => h9) rfl dX9_told_87 ?_
        refine lv_aload_n hx hb dX9_told_90 rfl (lv_at hl 0 rfl) ?_
        obtain ⟨k_35, hk_36⟩ : ∃ k : Nat, (CT cy a J (va_up I 10 (I 10)) (va_up O 8 (some b_28)) R RO (LL ++ Y))[k]? = some (b_4, .inr (6, [va_rf o_8, .int v_7, .int v_9, .int v_10, .int (bI z_11), .int v_12, .long v_13])) := pixT hm_5
        refine va_get (D := D) (ci := 6) (v := .int v_10) (C := RX7) (T := TX7) (N := 7) hx hb hts hi7 hown hK hP k_35 hk_36 rfl 3 (by decide) hw1 (fun _ h9 => h9) rfl dX9_told_91 ?_
        refine lv_aload_n hx hb dX9_told_94 rfl (lv_at hl 0 rfl) ?_
        obtain ⟨k_37, hk_38⟩ : ∃ k : Nat, (CT cy a J (va_up I 10 (I 10)) (va_up O 8 (some b_28)) R RO (LL ++ Y))[k]? = some (b_4, .inr (6, [va_rf o_8, .int v_7, .int v_9, .int v_10, .int (bI z_11), .int v_12, .long v_13])) := pixT hm_5
        refine va_get (D := D) (ci := 6) (v := .int (bI z_11)) (C := RX7) (T := TX7) (N := 7) hx hb hts hi7 hown hK hP k_37 hk_38 rfl 4 (by decide) hw2 (fun _ h9 => h9) rfl dX9_told_95 ?_
        obtain ⟨k_39, hk_40⟩ : ∃ k : Nat, (CT cy a J (va_up I 10 (I 10)) (va_up O 8 (some b_28)) R RO (LL ++ Y))[k]? = some (b_28, .inr (2, [.int v_31, .long v_32, .long v_33])) := pixT hm_29
        refine kRa_i (As := [.int v_10, .int (bI z_11)]) (rest := []) (q0 := k_39) ⟨hx, hb, hml, hown, hts⟩ (t_X3_hasStone l D cy _ (CT cy a J (va_up I 10 (I 10)) (va_up O 8 (some b_28)) R RO (LL ++ Y)) k_39 b_28 v_31 v_32 v_33 hk_40 v_10 z_11) (cwV 2 hts gX9_told_X3_hasStone rfl rfl rfl (by decide +kernel) ⟨Nat.le_of_ble_eq_true rfl, Nat.le_of_ble_eq_true rfl⟩) hK hN hP hD hk_40 rfl rfl hl.1 rfl (Nat.le_of_ble_eq_true rfl) dX9_told_98 ⟨Nat.le_of_ble_eq_true rfl, Nat.le_of_ble_eq_true rfl⟩ (fun r_41 hr_42 => ?_)
        obtain ⟨zb_43, rfl⟩ := hr_42
        refine kS_i (As := [.int (bI zb_43)]) (rest := []) ⟨hx, hb, hml, hown, hts⟩ (c_X9_asNumber l zb_43) (va_cwS 1 hts gX9_told_X9_asNumber rfl rfl rfl (by decide +kernel) ⟨Nat.le_of_ble_eq_true rfl, Nat.le_of_ble_eq_true rfl⟩) rfl hl.1 rfl (Nat.le_of_ble_eq_true rfl) dX9_told_101 ⟨Nat.le_of_ble_eq_true rfl, Nat.le_of_ble_eq_true rfl⟩ ?_
        exact wret_i hx hb hr hlocks (J, (va_up I 10 (I 10)), (va_up O 8 (some b_28)), R, RO, LL, Y) ⟨(I 10), (some b_28), hi_34, rfl⟩ hP hD hS dX9_told_104
      · rw [c_27] at hP hD
        have hi_44 : layO Y none := by rw [← c_27]; exact hM.2.2.1
        refine lv_iconst (v := (-1)) hx hb dX9_told_82 (by decide) ?_
        refine lv_goto (tgt := 104) hx hb dX9_told_83 (by decide) ?_
        exact wret_i hx hb hr hlocks (J, (va_up I 10 (I 10)), (va_up O 8 none), R, RO, LL, Y) ⟨(I 10), none, hi_44, rfl⟩ hP hD hS dX9_told_104
    refine lv_tableOut (tgt := 105) hx hb dX9_told_18 (sw_out 0 4 (by decide) (by decide) (fun k hk1 hk2 => by have hq : k = 0 ∨ k = 1 ∨ k = 2 ∨ k = 3 ∨ k = 4 := (by omega); rcases hq with rfl | rfl | rfl | rfl | rfl <;> assumption)) (by decide) ?_
    refine lv_aload_n hx hb dX9_told_105 rfl (lv_at hl 1 rfl) ?_
    refine lv_ldc (v := (-100001)) hx hb hown hw5 dX9_told_106 ?_
    refine kM_i (As := [.int (-100001)]) (rest := []) (q0 := 0) ⟨hx, hb, hml, hown, hts⟩ (t_X9_finding l D cy a _ J (va_up I 10 (I 10)) (va_up O 8 (O 8)) R RO LL Y ((-100001) : Int32)   ) (cwV 1 hts gX9_told_X9_finding rfl rfl rfl (by decide +kernel) ⟨Nat.le_of_ble_eq_true rfl, Nat.le_of_ble_eq_true rfl⟩) hK hN hP hD hS hA rfl rfl rfl hl.1 rfl (Nat.le_of_ble_eq_true rfl) dX9_told_108 ⟨Nat.le_of_ble_eq_true rfl, Nat.le_of_ble_eq_true rfl⟩ (fun r_45 u H locs hw hP hD hS => ?_)
    obtain ⟨w_46, rfl, rfl⟩ := hw
    have hP : va_P D vwCl (CT cy a J (va_up I 10 w_46) (va_up O 8 (O 8)) R RO (LL ++ Y)) H := hP
    have hD : va_D A (CT cy a J (va_up I 10 w_46) (va_up O 8 (O 8)) R RO (LL ++ Y)) := hD
    exact wret_i hx hb hr hlocks (J, (va_up I 10 w_46), (va_up O 8 (O 8)), R, RO, LL, Y) ⟨w_46, (O 8), hM.2.2.1, rfl⟩ hP hD hS dX9_told_111
  · subst c_3
    refine lv_aload_n hx hb dX9_told_10 rfl (lv_at hl 1 rfl) ?_
    refine lv_ldc (v := (-100001)) hx hb hown hw5 dX9_told_11 ?_
    refine kM_i (As := [.int (-100001)]) (rest := []) (q0 := 0) ⟨hx, hb, hml, hown, hts⟩ (t_X9_finding l D cy a _ J (va_up I 10 (I 10)) (va_up O 8 (O 8)) R RO LL Y ((-100001) : Int32)   ) (cwV 1 hts gX9_told_X9_finding rfl rfl rfl (by decide +kernel) ⟨Nat.le_of_ble_eq_true rfl, Nat.le_of_ble_eq_true rfl⟩) hK hN hP hD hS hA rfl rfl rfl hl.1 rfl (Nat.le_of_ble_eq_true rfl) dX9_told_13 ⟨Nat.le_of_ble_eq_true rfl, Nat.le_of_ble_eq_true rfl⟩ (fun r_47 u H locs hw hP hD hS => ?_)
    obtain ⟨w_48, rfl, rfl⟩ := hw
    have hP : va_P D vwCl (CT cy a J (va_up I 10 w_48) (va_up O 8 (O 8)) R RO (LL ++ Y)) H := hP
    have hD : va_D A (CT cy a J (va_up I 10 w_48) (va_up O 8 (O 8)) R RO (LL ++ Y)) := hD
    exact wret_i hx hb hr hlocks (J, (va_up I 10 w_48), (va_up O 8 (O 8)), R, RO, LL, Y) ⟨w_48, (O 8), hM.2.2.1, rfl⟩ hP hD hS dX9_told_16
theorem dX9_all_0 : decode cX9_all 0 = .ok (.iload_n 1, 1) := by decide +kernel
theorem dX9_all_1 : decode cX9_all 1 = .ok (.tableswitch 62 0 3 #[31, 36, 41, 57], 31) := by decide +kernel
theorem dX9_all_32 : decode cX9_all 32 = .ok (.aload_n 0, 1) := by decide +kernel
set_option maxRecDepth 20000 in
theorem ggX9_all_X9_stoneCount : GoodIn wsX9_all wsX9_stoneCount := goodIn_r _ [8, 9, 10, 31, 32, 33, 34, 35, 36, 37, 38, 39, 40, 41, 42, 43, 44, 45, 46, 47, 48] (by decide +kernel) (by decide +kernel)
set_option maxRecDepth 20000 in
theorem gX9_all_X9_stoneCount : GoodIn wsX9_all (wsV RX9 100 RX9 yX9_stoneCount wsX9_stoneCount) := goodIn_app (goodIn_of _ (by decide +kernel)) ggX9_all_X9_stoneCount
theorem dX9_all_33 : decode cX9_all 33 = .ok (.invokevirtual 100, 3) := by decide +kernel
theorem dX9_all_36 : decode cX9_all 36 = .ok (.ireturn, 1) := by decide +kernel
theorem dX9_all_37 : decode cX9_all 37 = .ok (.aload_n 0, 1) := by decide +kernel
set_option maxRecDepth 20000 in
theorem ggX9_all_X9_gluedCount : GoodIn wsX9_all wsX9_gluedCount := goodIn_r _ [14, 9, 15, 16, 17, 18, 19, 20, 21, 22, 7, 23, 24, 25, 26, 31, 32, 33, 34, 35, 36, 37, 38, 39, 40, 41, 42, 43, 44, 45, 46, 47, 48] (by decide +kernel) (by decide +kernel)
set_option maxRecDepth 20000 in
theorem gX9_all_X9_gluedCount : GoodIn wsX9_all (wsV RX9 320 RX9 yX9_gluedCount wsX9_gluedCount) := goodIn_app (goodIn_of _ (by decide +kernel)) ggX9_all_X9_gluedCount
theorem dX9_all_38 : decode cX9_all 38 = .ok (.invokevirtual 320, 3) := by decide +kernel
theorem dX9_all_41 : decode cX9_all 41 = .ok (.ireturn, 1) := by decide +kernel
theorem dX9_all_42 : decode cX9_all 42 = .ok (.aload_n 0, 1) := by decide +kernel
theorem dX9_all_43 : decode cX9_all 43 = .ok (.getfield 133, 3) := by decide +kernel
theorem dX9_all_46 : decode cX9_all 46 = .ok (.ifnull 7, 3) := by decide +kernel
theorem dX9_all_53 : decode cX9_all 53 = .ok (.iconst 0, 1) := by decide +kernel
set_option maxRecDepth 20000 in
theorem ggX9_all_X9_asNumber : GoodIn wsX9_all wsX9_asNumber := goodIn_r _ [26] (by decide +kernel) (by decide +kernel)
set_option maxRecDepth 20000 in
theorem gX9_all_X9_asNumber : GoodIn wsX9_all (va_wsS RX9 70 yX9_asNumber wsX9_asNumber) := goodIn_app (goodIn_of _ (by decide +kernel)) ggX9_all_X9_asNumber
theorem dX9_all_54 : decode cX9_all 54 = .ok (.invokestatic 70, 3) := by decide +kernel
theorem dX9_all_57 : decode cX9_all 57 = .ok (.ireturn, 1) := by decide +kernel
theorem dX9_all_49 : decode cX9_all 49 = .ok (.iconst 1, 1) := by decide +kernel
theorem dX9_all_50 : decode cX9_all 50 = .ok (.goto 4, 3) := by decide +kernel
theorem dX9_all_58 : decode cX9_all 58 = .ok (.aload_n 0, 1) := by decide +kernel
theorem dX9_all_59 : decode cX9_all 59 = .ok (.getfield 323, 3) := by decide +kernel
theorem dX9_all_62 : decode cX9_all 62 = .ok (.ireturn, 1) := by decide +kernel
theorem dX9_all_63 : decode cX9_all 63 = .ok (.aload_n 0, 1) := by decide +kernel
theorem dX9_all_64 : decode cX9_all 64 = .ok (.ldc 43, 2) := by decide +kernel
set_option maxRecDepth 20000 in
theorem ggX9_all_X9_finding : GoodIn wsX9_all wsX9_finding := goodIn_r _ [30, 2, 31, 32, 33, 34, 35, 36, 37, 38, 39, 40, 41] (by decide +kernel) (by decide +kernel)
set_option maxRecDepth 20000 in
theorem gX9_all_X9_finding : GoodIn wsX9_all (wsV RX9 44 RX9 yX9_finding wsX9_finding) := goodIn_app (goodIn_of _ (by decide +kernel)) ggX9_all_X9_finding
theorem dX9_all_66 : decode cX9_all 66 = .ok (.invokevirtual 44, 3) := by decide +kernel
theorem dX9_all_69 : decode cX9_all 69 = .ok (.ireturn, 1) := by decide +kernel
set_option maxRecDepth 20000 in
theorem ihX9_all_9 : ∀ w ∈ u_ws RX9 TX9 11, w ∈ wsX9_all := by decide +kernel
set_option maxHeartbeats 4000000 in
set_option maxRecDepth 100000 in
theorem t_X9_all (l : Launch) (D : va_G) (cy : Nat → ClassId) (a : Nat → Nat) (sz : Nat) (J : Nat → Int64) (I : Nat → Int32) (O : Nat → Option Nat) (R : Nat → Nat → Int32) (RO : Nat → Nat → Option Nat) (LL : va_W) (Y : va_W) (x0 : Int32) (hM : CI a Y I O RO) : Met l yX9_all wsX9_all ({ frames := 3, cells := 0, slots := 0, locals := 63 }) (va_Pc [.ref (a 0), .int x0] (PW D cy sz (CT cy a J I O R RO (LL ++ Y)))) (va_Qi (fun r (u : TS) => ∃ (w0 : Int32), ∃ (w1 : Option Nat), ((layO Y w1)) ∧ u = (J, (va_up I 10 w0), (va_up O 8 w1), R, RO, LL, Y)) (BW D (va_A (CT cy a J I O R RO (LL ++ Y)) sz) (CTu cy a)) (va_A (CT cy a J I O R RO (LL ++ Y)) sz)) 0 0 (va_A (CT cy a J I O R RO (LL ++ Y)) sz) := by
  refine Met.ofW (cc := cX9_all) (maxL := 2) (ret := (some .int)) (by decide) rfl ?_
  intro p e s m args below meth c s₁ B hml hv
  obtain ⟨rfl, rfl, hP, hK, hN, hD0⟩ := hv
  have hx := B.exec
  have hb := B.bytes
  have hr := B.returns
  have hts := atoms_spec (ws := wsX9_all) B.pre
  have hown : s.vm.findClass RX9 = some m.cls := findClass_of_methodNamed B.named
  have hlocks := B.notSynchronized
  have hw0 := hts (.fieldLink RX9 133 "ParquetLayer" "hand" "LParquetLayer$Laying;") (by decide +kernel)
  have hw1 := hts (.fieldLink RX9 323 "ParquetLayer" "findings" "I") (by decide +kernel)
  have hw2 := hts (.constant RX9 43 (-100001)) (by decide +kernel)
  have hi9 := ihX9_all_9
  have hD := hD0.self (sz := s.heap.size)
  generalize hAe : va_A (CT cy a J I O R RO (LL ++ Y)) s.heap.size = A at hD ⊢
  have hA : ∀ q : Nat, s.heap.size ≤ q → A q := fun q h => by rw [← hAe]; exact Or.inr h
  have hS : va_S A s.heap s.heap [] := va_S.rf
  have hl := lv_entry ([.ref (a 0), .int x0]) (n := 2) (Nat.le_of_ble_eq_true rfl)
  rw [lg_entry_eq]
  generalize (lg_sl ([.ref (a 0), .int x0]) ++ List.replicate (2 - (lg_sl ([.ref (a 0), .int x0])).length) Slot.unset).toArray = ls at hl ⊢
  have hl : lv_has ls 2 [(0, .ref (a 0)), (1, .int x0)] := hl
  have hRO0 := hM.2.2.2.2.2.2.2.2.1
  have hRO1 := hM.2.2.2.2.2.2.2.2.2.1
  have hRO2 := hM.2.2.2.2.2.2.2.2.2.2.1
  have hRO3 := hM.2.2.2.2.2.2.2.2.2.2.2
  have hP : va_P D vwCl (CT cy a J (va_up I 10 (I 10)) (va_up O 8 (O 8)) R RO (LL ++ Y)) s.heap := hP
  have hD : va_D A (CT cy a J (va_up I 10 (I 10)) (va_up O 8 (O 8)) R RO (LL ++ Y)) := hD
  refine lv_iload_n hx hb dX9_all_0 rfl (lv_at hl 1 rfl) ?_
  by_cases c_1 : x0 = 0
  · refine lv_tableIn (off := 31) (tgt := 32) hx hb dX9_all_1 (by rw [c_1]; decide) (by rw [c_1]; decide) (by rw [c_1]; rfl) (by decide) ?_
    refine lv_aload_n hx hb dX9_all_32 rfl (lv_at hl 0 rfl) ?_
    refine kRa_i (As := []) (rest := []) (q0 := 0) ⟨hx, hb, hml, hown, hts⟩ (t_X9_stoneCount l D cy a _ J (va_up I 10 (I 10)) (va_up O 8 (O 8)) R RO LL Y   ⟨hM.1, hM.2.1, hM.2.2.1, hM.2.2.2.1, hM.2.2.2.2.1, hM.2.2.2.2.2.1, hM.2.2.2.2.2.2.1, hM.2.2.2.2.2.2.2.1, hRO0, hRO1, hRO2, hRO3⟩) (cwV 0 hts gX9_all_X9_stoneCount rfl rfl rfl (by decide +kernel) ⟨Nat.le_of_ble_eq_true rfl, Nat.le_of_ble_eq_true rfl⟩) hK hN hP hD rfl rfl rfl hl.1 rfl (Nat.le_of_ble_eq_true rfl) dX9_all_33 ⟨Nat.le_of_ble_eq_true rfl, Nat.le_of_ble_eq_true rfl⟩ (fun r_2 hr_3 => ?_)
    exact wret_i hx hb hr hlocks (J, (va_up I 10 (I 10)), (va_up O 8 (O 8)), R, RO, LL, Y) ⟨(I 10), (O 8), hM.2.2.1, rfl⟩ hP hD hS dX9_all_36
  by_cases c_4 : x0 = 1
  · refine lv_tableIn (off := 36) (tgt := 37) hx hb dX9_all_1 (by rw [c_4]; decide) (by rw [c_4]; decide) (by rw [c_4]; rfl) (by decide) ?_
    refine lv_aload_n hx hb dX9_all_37 rfl (lv_at hl 0 rfl) ?_
    refine kRa_i (As := []) (rest := []) (q0 := 0) ⟨hx, hb, hml, hown, hts⟩ (t_X9_gluedCount l D cy a _ J (va_up I 10 (I 10)) (va_up O 8 (O 8)) R RO LL Y   ⟨hM.1, hM.2.1, hM.2.2.1, hM.2.2.2.1, hM.2.2.2.2.1, hM.2.2.2.2.2.1, hM.2.2.2.2.2.2.1, hM.2.2.2.2.2.2.2.1, hRO0, hRO1, hRO2, hRO3⟩) (cwV 0 hts gX9_all_X9_gluedCount rfl rfl rfl (by decide +kernel) ⟨Nat.le_of_ble_eq_true rfl, Nat.le_of_ble_eq_true rfl⟩) hK hN hP hD rfl rfl rfl hl.1 rfl (Nat.le_of_ble_eq_true rfl) dX9_all_38 ⟨Nat.le_of_ble_eq_true rfl, Nat.le_of_ble_eq_true rfl⟩ (fun r_5 hr_6 => ?_)
    exact wret_i hx hb hr hlocks (J, (va_up I 10 (I 10)), (va_up O 8 (O 8)), R, RO, LL, Y) ⟨(I 10), (O 8), hM.2.2.1, rfl⟩ hP hD hS dX9_all_41
  by_cases c_7 : x0 = 2
  · refine lv_tableIn (off := 41) (tgt := 42) hx hb dX9_all_1 (by rw [c_7]; decide) (by rw [c_7]; decide) (by rw [c_7]; rfl) (by decide) ?_
    refine lv_aload_n hx hb dX9_all_42 rfl (lv_at hl 0 rfl) ?_
    refine va_get (D := D) (ci := 8) (v := va_rf (O 8)) (C := RX9) (T := TX9) (N := 11) hx hb hts hi9 hown hK hP 0 rfl rfl 8 (by decide) hw0 (fun _ h9 => h9) rfl dX9_all_43 ?_
    refine lv_ifnullO (tgt := 53) hx hb dX9_all_46 (by decide) (fun c_8 => ?_) (fun c_8 => ?_)
    · rw [c_8] at hP hD
      have hi_9 : layO Y none := by rw [← c_8]; exact hM.2.2.1
      refine lv_iconst (v := 0) hx hb dX9_all_53 (by decide) ?_
      refine kS_i (As := [.int 0]) (rest := []) ⟨hx, hb, hml, hown, hts⟩ (c_X9_asNumber l false) (va_cwS 1 hts gX9_all_X9_asNumber rfl rfl rfl (by decide +kernel) ⟨Nat.le_of_ble_eq_true rfl, Nat.le_of_ble_eq_true rfl⟩) rfl hl.1 rfl (Nat.le_of_ble_eq_true rfl) dX9_all_54 ⟨Nat.le_of_ble_eq_true rfl, Nat.le_of_ble_eq_true rfl⟩ ?_
      exact wret_i hx hb hr hlocks (J, (va_up I 10 (I 10)), (va_up O 8 none), R, RO, LL, Y) ⟨(I 10), none, hi_9, rfl⟩ hP hD hS dX9_all_57
    · obtain ⟨b_10, v_13, v_14, v_15, e_12, hm_11⟩ := lay_some hM.2.2.1 c_8
      rw [e_12] at hP hD
      have hi_16 : layO Y (some b_10) := by rw [← e_12]; exact hM.2.2.1
      refine lv_iconst (v := 1) hx hb dX9_all_49 (by decide) ?_
      refine lv_goto (tgt := 54) hx hb dX9_all_50 (by decide) ?_
      refine kS_i (As := [.int 1]) (rest := []) ⟨hx, hb, hml, hown, hts⟩ (c_X9_asNumber l true) (va_cwS 1 hts gX9_all_X9_asNumber rfl rfl rfl (by decide +kernel) ⟨Nat.le_of_ble_eq_true rfl, Nat.le_of_ble_eq_true rfl⟩) rfl hl.1 rfl (Nat.le_of_ble_eq_true rfl) dX9_all_54 ⟨Nat.le_of_ble_eq_true rfl, Nat.le_of_ble_eq_true rfl⟩ ?_
      exact wret_i hx hb hr hlocks (J, (va_up I 10 (I 10)), (va_up O 8 (some b_10)), R, RO, LL, Y) ⟨(I 10), (some b_10), hi_16, rfl⟩ hP hD hS dX9_all_57
  by_cases c_17 : x0 = 3
  · refine lv_tableIn (off := 57) (tgt := 58) hx hb dX9_all_1 (by rw [c_17]; decide) (by rw [c_17]; decide) (by rw [c_17]; rfl) (by decide) ?_
    refine lv_aload_n hx hb dX9_all_58 rfl (lv_at hl 0 rfl) ?_
    refine va_get (D := D) (ci := 8) (v := .int (I 10)) (C := RX9) (T := TX9) (N := 11) hx hb hts hi9 hown hK hP 0 rfl rfl 10 (by decide) hw1 (fun _ h9 => h9) rfl dX9_all_59 ?_
    exact wret_i hx hb hr hlocks (J, (va_up I 10 (I 10)), (va_up O 8 (O 8)), R, RO, LL, Y) ⟨(I 10), (O 8), hM.2.2.1, rfl⟩ hP hD hS dX9_all_62
  refine lv_tableOut (tgt := 63) hx hb dX9_all_1 (sw_out 0 3 (by decide) (by decide) (fun k hk1 hk2 => by have hq : k = 0 ∨ k = 1 ∨ k = 2 ∨ k = 3 := (by omega); rcases hq with rfl | rfl | rfl | rfl <;> assumption)) (by decide) ?_
  refine lv_aload_n hx hb dX9_all_63 rfl (lv_at hl 0 rfl) ?_
  refine lv_ldc (v := (-100001)) hx hb hown hw2 dX9_all_64 ?_
  refine kM_i (As := [.int (-100001)]) (rest := []) (q0 := 0) ⟨hx, hb, hml, hown, hts⟩ (t_X9_finding l D cy a _ J (va_up I 10 (I 10)) (va_up O 8 (O 8)) R RO LL Y ((-100001) : Int32)   ) (cwV 1 hts gX9_all_X9_finding rfl rfl rfl (by decide +kernel) ⟨Nat.le_of_ble_eq_true rfl, Nat.le_of_ble_eq_true rfl⟩) hK hN hP hD hS hA rfl rfl rfl hl.1 rfl (Nat.le_of_ble_eq_true rfl) dX9_all_66 ⟨Nat.le_of_ble_eq_true rfl, Nat.le_of_ble_eq_true rfl⟩ (fun r_18 u H locs hw hP hD hS => ?_)
  obtain ⟨w_19, rfl, rfl⟩ := hw
  have hP : va_P D vwCl (CT cy a J (va_up I 10 w_19) (va_up O 8 (O 8)) R RO (LL ++ Y)) H := hP
  have hD : va_D A (CT cy a J (va_up I 10 w_19) (va_up O 8 (O 8)) R RO (LL ++ Y)) := hD
  exact wret_i hx hb hr hlocks (J, (va_up I 10 w_19), (va_up O 8 (O 8)), R, RO, LL, Y) ⟨w_19, (O 8), hM.2.2.1, rfl⟩ hP hD hS dX9_all_69
theorem dX9_undo_0 : decode cX9_undo 0 = .ok (.aload_n 0, 1) := by decide +kernel
theorem dX9_undo_1 : decode cX9_undo 1 = .ok (.getfield 314, 3) := by decide +kernel
theorem dX9_undo_4 : decode cX9_undo 4 = .ok (.ifCond .ne 10, 3) := by decide +kernel
theorem dX9_undo_14 : decode cX9_undo 14 = .ok (.aload_n 0, 1) := by decide +kernel
theorem dX9_undo_15 : decode cX9_undo 15 = .ok (.dup, 1) := by decide +kernel
theorem dX9_undo_16 : decode cX9_undo 16 = .ok (.getfield 314, 3) := by decide +kernel
theorem dX9_undo_19 : decode cX9_undo 19 = .ok (.iconst 1, 1) := by decide +kernel
theorem dX9_undo_20 : decode cX9_undo 20 = .ok (.isub, 1) := by decide +kernel
theorem dX9_undo_21 : decode cX9_undo 21 = .ok (.putfield 314, 3) := by decide +kernel
theorem dX9_undo_24 : decode cX9_undo 24 = .ok (.aload_n 0, 1) := by decide +kernel
theorem dX9_undo_25 : decode cX9_undo 25 = .ok (.getfield 17, 3) := by decide +kernel
theorem dX9_undo_28 : decode cX9_undo 28 = .ok (.aload_n 0, 1) := by decide +kernel
theorem dX9_undo_29 : decode cX9_undo 29 = .ok (.getfield 314, 3) := by decide +kernel
theorem dX9_undo_32 : decode cX9_undo 32 = .ok (.aaload, 1) := by decide +kernel
theorem dX9_undo_33 : decode cX9_undo 33 = .ok (.astore_n 1, 1) := by decide +kernel
theorem dX9_undo_34 : decode cX9_undo 34 = .ok (.aload_n 0, 1) := by decide +kernel
theorem dX9_undo_35 : decode cX9_undo 35 = .ok (.getfield 17, 3) := by decide +kernel
theorem dX9_undo_38 : decode cX9_undo 38 = .ok (.aload_n 0, 1) := by decide +kernel
theorem dX9_undo_39 : decode cX9_undo 39 = .ok (.getfield 314, 3) := by decide +kernel
theorem dX9_undo_42 : decode cX9_undo 42 = .ok (.aconst_null, 1) := by decide +kernel
theorem dX9_undo_43 : decode cX9_undo 43 = .ok (.aastore, 1) := by decide +kernel
theorem dX9_undo_44 : decode cX9_undo 44 = .ok (.aload_n 1, 1) := by decide +kernel
theorem dX9_undo_45 : decode cX9_undo 45 = .ok (.ifnull 27, 3) := by decide +kernel
theorem dX9_undo_72 : decode cX9_undo 72 = .ok (.aload_n 0, 1) := by decide +kernel
theorem dX9_undo_73 : decode cX9_undo 73 = .ok (.getfield 314, 3) := by decide +kernel
theorem dX9_undo_76 : decode cX9_undo 76 = .ok (.ireturn, 1) := by decide +kernel
theorem dX9_undo_48 : decode cX9_undo 48 = .ok (.aload_n 0, 1) := by decide +kernel
theorem dX9_undo_49 : decode cX9_undo 49 = .ok (.aload_n 1, 1) := by decide +kernel
theorem dX9_undo_50 : decode cX9_undo 50 = .ok (.getfield 317, 3) := by decide +kernel
theorem dX9_undo_53 : decode cX9_undo 53 = .ok (.putfield 48, 3) := by decide +kernel
theorem dX9_undo_56 : decode cX9_undo 56 = .ok (.aload_n 0, 1) := by decide +kernel
theorem dX9_undo_57 : decode cX9_undo 57 = .ok (.aload_n 1, 1) := by decide +kernel
theorem dX9_undo_58 : decode cX9_undo 58 = .ok (.getfield 318, 3) := by decide +kernel
theorem dX9_undo_61 : decode cX9_undo 61 = .ok (.putfield 106, 3) := by decide +kernel
theorem dX9_undo_64 : decode cX9_undo 64 = .ok (.aload_n 0, 1) := by decide +kernel
theorem dX9_undo_65 : decode cX9_undo 65 = .ok (.aload_n 1, 1) := by decide +kernel
theorem dX9_undo_66 : decode cX9_undo 66 = .ok (.getfield 319, 3) := by decide +kernel
theorem dX9_undo_69 : decode cX9_undo 69 = .ok (.putfield 133, 3) := by decide +kernel
theorem dX9_undo_7 : decode cX9_undo 7 = .ok (.aload_n 0, 1) := by decide +kernel
theorem dX9_undo_8 : decode cX9_undo 8 = .ok (.ldc 137, 2) := by decide +kernel
set_option maxRecDepth 20000 in
theorem ggX9_undo_X9_finding : GoodIn wsX9_undo wsX9_finding := goodIn_r _ [14, 15, 16, 17, 18, 19, 20, 21, 22, 23, 24, 25, 26] (by decide +kernel) (by decide +kernel)
set_option maxRecDepth 20000 in
theorem gX9_undo_X9_finding : GoodIn wsX9_undo (wsV RX9 44 RX9 yX9_finding wsX9_finding) := goodIn_app (goodIn_of _ (by decide +kernel)) ggX9_undo_X9_finding
theorem dX9_undo_10 : decode cX9_undo 10 = .ok (.invokevirtual 44, 3) := by decide +kernel
theorem dX9_undo_13 : decode cX9_undo 13 = .ok (.ireturn, 1) := by decide +kernel
set_option maxRecDepth 20000 in
theorem ihX9_undo_5 : ∀ w ∈ u_ws RX5 TX5 3, w ∈ wsX9_undo := by decide +kernel
set_option maxRecDepth 20000 in
theorem ihX9_undo_9 : ∀ w ∈ u_ws RX9 TX9 11, w ∈ wsX9_undo := by decide +kernel
set_option maxHeartbeats 4000000 in
set_option maxRecDepth 100000 in
theorem t_X9_undo (l : Launch) (D : va_G) (cy : Nat → ClassId) (a : Nat → Nat) (sz : Nat) (J : Nat → Int64) (I : Nat → Int32) (O : Nat → Option Nat) (R : Nat → Nat → Int32) (RO : Nat → Nat → Option Nat) (LL : va_W) (Y : va_W)  (hM : CI a Y I O RO) : Met l yX9_undo wsX9_undo ({ frames := 1, cells := 0, slots := 0, locals := 21 }) (va_Pc [.ref (a 0)] (PW D cy sz (CT cy a J I O R RO (LL ++ Y)))) (va_Qi (fun r (u : TS) => ∃ (w0 : Int64), ∃ (w1 : Int32), ∃ (w2 : Int32), ∃ (w3 : Option Nat), ∃ (w4 : Option Nat), ∃ (w5 : Nat → Option Nat), ((vp_in w1 21) ∧ (chO Y w3) ∧ (layO Y w4) ∧ (∀ i, i < 20 → pasO Y (w5 i))) ∧ u = ((va_up J 6 w0), (va_up (va_up I 9 w1) 10 w2), (va_up (va_up O 7 w3) 8 w4), R, (va_up RO 2 w5), LL, Y)) (BW D (va_A (CT cy a J I O R RO (LL ++ Y)) sz) (CTu cy a)) (va_A (CT cy a J I O R RO (LL ++ Y)) sz)) 0 0 (va_A (CT cy a J I O R RO (LL ++ Y)) sz) := by
  refine Met.ofW (cc := cX9_undo) (maxL := 2) (ret := (some .int)) (by decide) rfl ?_
  intro p e s m args below meth c s₁ B hml hv
  obtain ⟨rfl, rfl, hP, hK, hN, hD0⟩ := hv
  have hx := B.exec
  have hb := B.bytes
  have hr := B.returns
  have hts := atoms_spec (ws := wsX9_undo) B.pre
  have hown : s.vm.findClass RX9 = some m.cls := findClass_of_methodNamed B.named
  have hlocks := B.notSynchronized
  have hw0 := hts (.fieldLink RX9 314 "ParquetLayer" "kept" "I") (by decide +kernel)
  have hw1 := hts (.fieldLink RX9 17 "ParquetLayer" "pasts" "[LParquetLayer$Past;") (by decide +kernel)
  have hw2 := hts (.fieldLink RX9 317 "ParquetLayer$Past" "fields" "J") (by decide +kernel)
  have hw3 := hts (.fieldLink RX9 48 "ParquetLayer" "fields" "J") (by decide +kernel)
  have hw4 := hts (.fieldLink RX9 318 "ParquetLayer$Past" "latest" "LParquetLayer$Stone;") (by decide +kernel)
  have hw5 := hts (.fieldLink RX9 106 "ParquetLayer" "latest" "LParquetLayer$Stone;") (by decide +kernel)
  have hw6 := hts (.fieldLink RX9 319 "ParquetLayer$Past" "hand" "LParquetLayer$Laying;") (by decide +kernel)
  have hw7 := hts (.fieldLink RX9 133 "ParquetLayer" "hand" "LParquetLayer$Laying;") (by decide +kernel)
  have hw8 := hts (.constant RX9 137 (-100006)) (by decide +kernel)
  have hi5 := ihX9_undo_5
  have hi9 := ihX9_undo_9
  have hD := hD0.self (sz := s.heap.size)
  generalize hAe : va_A (CT cy a J I O R RO (LL ++ Y)) s.heap.size = A at hD ⊢
  have hA : ∀ q : Nat, s.heap.size ≤ q → A q := fun q h => by rw [← hAe]; exact Or.inr h
  have hS : va_S A s.heap s.heap [] := va_S.rf
  have hl := lv_entry ([.ref (a 0)]) (n := 2) (Nat.le_of_ble_eq_true rfl)
  rw [lg_entry_eq]
  generalize (lg_sl ([.ref (a 0)]) ++ List.replicate (2 - (lg_sl ([.ref (a 0)])).length) Slot.unset).toArray = ls at hl ⊢
  have hl : lv_has ls 2 [(0, .ref (a 0))] := hl
  have hRO0 := hM.2.2.2.2.2.2.2.2.1
  have hRO1 := hM.2.2.2.2.2.2.2.2.2.1
  have hRO2 := hM.2.2.2.2.2.2.2.2.2.2.1
  have hRO3 := hM.2.2.2.2.2.2.2.2.2.2.2
  have hP : va_P D vwCl (CT cy a (va_up J 6 (J 6)) (va_up (va_up I 9 (I 9)) 10 (I 10)) (va_up (va_up O 7 (O 7)) 8 (O 8)) R (va_up RO 2 (RO 2)) (LL ++ Y)) s.heap := hP
  have hD : va_D A (CT cy a (va_up J 6 (J 6)) (va_up (va_up I 9 (I 9)) 10 (I 10)) (va_up (va_up O 7 (O 7)) 8 (O 8)) R (va_up RO 2 (RO 2)) (LL ++ Y)) := hD
  refine lv_aload_n hx hb dX9_undo_0 rfl (lv_at hl 0 rfl) ?_
  refine va_get (D := D) (ci := 8) (v := .int (I 9)) (C := RX9) (T := TX9) (N := 11) hx hb hts hi9 hown hK hP 0 rfl rfl 9 (by decide) hw0 (fun _ h9 => h9) rfl dX9_undo_1 ?_
  refine lv_if_ne (tgt := 14) hx hb dX9_undo_4 (by decide) (fun c_1 => ?_) (fun c_1 => ?_)
  · refine lv_aload_n hx hb dX9_undo_14 rfl (lv_at hl 0 rfl) ?_
    refine lv_dup hx hb dX9_undo_15 rfl ?_
    refine va_get (D := D) (ci := 8) (v := .int (I 9)) (C := RX9) (T := TX9) (N := 11) hx hb hts hi9 hown hK hP 0 rfl rfl 9 (by decide) hw0 (fun _ h9 => h9) rfl dX9_undo_16 ?_
    refine lv_iconst (v := 1) hx hb dX9_undo_19 (by decide) ?_
    refine lv_isub hx hb dX9_undo_20 ?_
    refine va_put (D := D) (ci := 8) (v := .int ((I 9) - 1)) (ty := .int) (C := RX9) (T := TX9) (N := 11) hx hb hts hi9 tyX9 tyX9_ok nmX9 hown hK hP hD hS 0 rfl rfl 9 (by decide) hw0 (fun _ h9 => h9) rfl (by decide +kernel) rfl rfl (Nat.le_of_ble_eq_true rfl) dX9_undo_21 (fun H locs hP hD hS => ?_)
    have hP : va_P D vwCl (CT cy a (va_up J 6 (J 6)) (va_up (va_up I 9 ((I 9) - 1)) 10 (I 10)) (va_up (va_up O 7 (O 7)) 8 (O 8)) R (va_up RO 2 (RO 2)) (LL ++ Y)) H := hP
    have hD : va_D A (CT cy a (va_up J 6 (J 6)) (va_up (va_up I 9 ((I 9) - 1)) 10 (I 10)) (va_up (va_up O 7 (O 7)) 8 (O 8)) R (va_up RO 2 (RO 2)) (LL ++ Y)) := hD
    have hi_2 : vp_in ((I 9) - 1) 21 := in_up (in_pred hM.1 c_1)
    refine lv_aload_n hx hb dX9_undo_24 rfl (lv_at hl 0 rfl) ?_
    refine va_get (D := D) (ci := 8) (v := .ref (a 2)) (C := RX9) (T := TX9) (N := 11) hx hb hts hi9 hown hK hP 0 rfl rfl 1 (by decide) hw1 (fun _ h9 => h9) rfl dX9_undo_25 ?_
    refine lv_aload_n hx hb dX9_undo_28 rfl (lv_at hl 0 rfl) ?_
    refine va_get (D := D) (ci := 8) (v := .int ((I 9) - 1)) (C := RX9) (T := TX9) (N := 11) hx hb hts hi9 hown hK hP 0 rfl rfl 9 (by decide) hw0 (fun _ h9 => h9) rfl dX9_undo_29 ?_
    refine va_aldq hx hb hK hP 2 3 rfl rfl (in_pred hM.1 c_1) dX9_undo_32 ?_
    obtain ⟨o_3, ho_4⟩ : ∃ z, z = (RO 2) ((I 9) - 1).toNatClampNeg := ⟨_, rfl⟩
    have hp_5 : pasO Y o_3 := by rw [ho_4]; exact hM.2.2.2.1 _ (in_lt (in_pred hM.1 c_1))
    refine wtop_v (y := va_rf o_3) (congrArg va_rf ho_4.symm) ?_
    refine lv_astore_nO (lv' := [(1, va_rf o_3), (0, .ref (a 0))]) hx hb dX9_undo_33 rfl hl (by decide) rfl (fun ls hl => ?_)
    refine lv_aload_n hx hb dX9_undo_34 rfl (lv_at hl 1 rfl) ?_
    refine va_get (D := D) (ci := 8) (v := .ref (a 2)) (C := RX9) (T := TX9) (N := 11) hx hb hts hi9 hown hK hP 0 rfl rfl 1 (by decide) hw1 (fun _ h9 => h9) rfl dX9_undo_35 ?_
    refine lv_aload_n hx hb dX9_undo_38 rfl (lv_at hl 1 rfl) ?_
    refine va_get (D := D) (ci := 8) (v := .int ((I 9) - 1)) (C := RX9) (T := TX9) (N := 11) hx hb hts hi9 hown hK hP 0 rfl rfl 9 (by decide) hw0 (fun _ h9 => h9) rfl dX9_undo_39 ?_
    refine lv_null hx hb dX9_undo_42 ?_
    refine kstO (o := none) hx hb hK hP hD hS 2 3 4 rfl rfl rfl (Or.inl rfl) (in_pred hM.1 c_1) dX9_undo_43 (fun H locs hP hD hS => ?_)
    have hP : va_P D vwCl (CT cy a (va_up J 6 (J 6)) (va_up (va_up I 9 ((I 9) - 1)) 10 (I 10)) (va_up (va_up O 7 (O 7)) 8 (O 8)) R (va_up RO 2 (va_up (RO 2) ((I 9) - 1).toNatClampNeg none)) (LL ++ Y)) H := hP
    have hD : va_D A (CT cy a (va_up J 6 (J 6)) (va_up (va_up I 9 ((I 9) - 1)) 10 (I 10)) (va_up (va_up O 7 (O 7)) 8 (O 8)) R (va_up RO 2 (va_up (RO 2) ((I 9) - 1).toNatClampNeg none)) (LL ++ Y)) := hD
    have hi_6 : ∀ i, i < 20 → pasO Y ((va_up (RO 2) ((I 9) - 1).toNatClampNeg none) i) := pas_up hM.2.2.2.1 pas_none
    refine lv_aload_nO hx hb dX9_undo_44 rfl (lv_at hl 0 rfl) ?_
    refine lv_ifnullO (tgt := 72) hx hb dX9_undo_45 (by decide) (fun c_7 => ?_) (fun c_7 => ?_)
    · subst c_7
      refine lv_aload_n hx hb dX9_undo_72 rfl (lv_at hl 1 rfl) ?_
      refine va_get (D := D) (ci := 8) (v := .int ((I 9) - 1)) (C := RX9) (T := TX9) (N := 11) hx hb hts hi9 hown hK hP 0 rfl rfl 9 (by decide) hw0 (fun _ h9 => h9) rfl dX9_undo_73 ?_
      exact wret_i hx hb hr hlocks ((va_up J 6 (J 6)), (va_up (va_up I 9 ((I 9) - 1)) 10 (I 10)), (va_up (va_up O 7 (O 7)) 8 (O 8)), R, (va_up RO 2 (va_up (RO 2) ((I 9) - 1).toNatClampNeg none)), LL, Y) ⟨(J 6), ((I 9) - 1), (I 10), (O 7), (O 8), (va_up (RO 2) ((I 9) - 1).toNatClampNeg none), ⟨hi_2, hM.2.1, hM.2.2.1, hi_6⟩, rfl⟩ hP hD hS dX9_undo_76
    · obtain ⟨b_8, v_11, o_12, o_13, e_10, hm_9, hc_14, hc_15⟩ := pas_some hp_5 c_7
      subst e_10
      refine lv_aload_n hx hb dX9_undo_48 rfl (lv_at hl 1 rfl) ?_
      refine lv_aload_n hx hb dX9_undo_49 rfl (lv_at hl 0 rfl) ?_
      obtain ⟨k_16, hk_17⟩ : ∃ k : Nat, (CT cy a (va_up J 6 (J 6)) (va_up (va_up I 9 ((I 9) - 1)) 10 (I 10)) (va_up (va_up O 7 (O 7)) 8 (O 8)) R (va_up RO 2 (va_up (RO 2) ((I 9) - 1).toNatClampNeg none)) (LL ++ Y))[k]? = some (b_8, .inr (4, [.long v_11, va_rf o_12, va_rf o_13])) := pixT hm_9
      refine va_get (D := D) (ci := 4) (v := .long v_11) (C := RX5) (T := TX5) (N := 3) hx hb hts hi5 hown hK hP k_16 hk_17 rfl 0 (by decide) hw2 (fun _ h9 => h9) rfl dX9_undo_50 ?_
      refine va_put (D := D) (ci := 8) (v := .long v_11) (ty := .long) (C := RX9) (T := TX9) (N := 11) hx hb hts hi9 tyX9 tyX9_ok nmX9 hown hK hP hD hS 0 rfl rfl 6 (by decide) hw3 (fun _ h9 => h9) rfl (by decide +kernel) rfl rfl (Nat.le_of_ble_eq_true rfl) dX9_undo_53 (fun H locs hP hD hS => ?_)
      have hP : va_P D vwCl (CT cy a (va_up J 6 v_11) (va_up (va_up I 9 ((I 9) - 1)) 10 (I 10)) (va_up (va_up O 7 (O 7)) 8 (O 8)) R (va_up RO 2 (va_up (RO 2) ((I 9) - 1).toNatClampNeg none)) (LL ++ Y)) H := hP
      have hD : va_D A (CT cy a (va_up J 6 v_11) (va_up (va_up I 9 ((I 9) - 1)) 10 (I 10)) (va_up (va_up O 7 (O 7)) 8 (O 8)) R (va_up RO 2 (va_up (RO 2) ((I 9) - 1).toNatClampNeg none)) (LL ++ Y)) := hD
      refine lv_aload_n hx hb dX9_undo_56 rfl (lv_at hl 1 rfl) ?_
      refine lv_aload_n hx hb dX9_undo_57 rfl (lv_at hl 0 rfl) ?_
      obtain ⟨k_18, hk_19⟩ : ∃ k : Nat, (CT cy a (va_up J 6 v_11) (va_up (va_up I 9 ((I 9) - 1)) 10 (I 10)) (va_up (va_up O 7 (O 7)) 8 (O 8)) R (va_up RO 2 (va_up (RO 2) ((I 9) - 1).toNatClampNeg none)) (LL ++ Y))[k]? = some (b_8, .inr (4, [.long v_11, va_rf o_12, va_rf o_13])) := pixT hm_9
      refine va_get (D := D) (ci := 4) (v := va_rf o_12) (C := RX5) (T := TX5) (N := 3) hx hb hts hi5 hown hK hP k_18 hk_19 rfl 1 (by decide) hw4 (fun _ h9 => h9) rfl dX9_undo_58 ?_
      refine va_put (D := D) (ci := 8) (v := va_rf o_12) (ty := .object "ParquetLayer$Stone") (C := RX9) (T := TX9) (N := 11) hx hb hts hi9 tyX9 tyX9_ok nmX9 hown hK hP hD hS 0 rfl rfl 7 (by decide) hw5 (fun _ h9 => h9) rfl (by decide +kernel) (onar _) (ofit _) (Nat.le_of_ble_eq_true rfl) dX9_undo_61 (fun H locs hP hD hS => ?_)
      have hP : va_P D vwCl (CT cy a (va_up J 6 v_11) (va_up (va_up I 9 ((I 9) - 1)) 10 (I 10)) (va_up (va_up O 7 o_12) 8 (O 8)) R (va_up RO 2 (va_up (RO 2) ((I 9) - 1).toNatClampNeg none)) (LL ++ Y)) H := hP
      have hD : va_D A (CT cy a (va_up J 6 v_11) (va_up (va_up I 9 ((I 9) - 1)) 10 (I 10)) (va_up (va_up O 7 o_12) 8 (O 8)) R (va_up RO 2 (va_up (RO 2) ((I 9) - 1).toNatClampNeg none)) (LL ++ Y)) := hD
      have hi_20 : chO Y o_12 := hc_14
      refine lv_aload_n hx hb dX9_undo_64 rfl (lv_at hl 1 rfl) ?_
      refine lv_aload_n hx hb dX9_undo_65 rfl (lv_at hl 0 rfl) ?_
      obtain ⟨k_21, hk_22⟩ : ∃ k : Nat, (CT cy a (va_up J 6 v_11) (va_up (va_up I 9 ((I 9) - 1)) 10 (I 10)) (va_up (va_up O 7 o_12) 8 (O 8)) R (va_up RO 2 (va_up (RO 2) ((I 9) - 1).toNatClampNeg none)) (LL ++ Y))[k]? = some (b_8, .inr (4, [.long v_11, va_rf o_12, va_rf o_13])) := pixT hm_9
      refine va_get (D := D) (ci := 4) (v := va_rf o_13) (C := RX5) (T := TX5) (N := 3) hx hb hts hi5 hown hK hP k_21 hk_22 rfl 2 (by decide) hw6 (fun _ h9 => h9) rfl dX9_undo_66 ?_
      refine va_put (D := D) (ci := 8) (v := va_rf o_13) (ty := .object "ParquetLayer$Laying") (C := RX9) (T := TX9) (N := 11) hx hb hts hi9 tyX9 tyX9_ok nmX9 hown hK hP hD hS 0 rfl rfl 8 (by decide) hw7 (fun _ h9 => h9) rfl (by decide +kernel) (onar _) (ofit _) (Nat.le_of_ble_eq_true rfl) dX9_undo_69 (fun H locs hP hD hS => ?_)
      have hP : va_P D vwCl (CT cy a (va_up J 6 v_11) (va_up (va_up I 9 ((I 9) - 1)) 10 (I 10)) (va_up (va_up O 7 o_12) 8 o_13) R (va_up RO 2 (va_up (RO 2) ((I 9) - 1).toNatClampNeg none)) (LL ++ Y)) H := hP
      have hD : va_D A (CT cy a (va_up J 6 v_11) (va_up (va_up I 9 ((I 9) - 1)) 10 (I 10)) (va_up (va_up O 7 o_12) 8 o_13) R (va_up RO 2 (va_up (RO 2) ((I 9) - 1).toNatClampNeg none)) (LL ++ Y)) := hD
      have hi_23 : layO Y o_13 := hc_15
      refine lv_aload_n hx hb dX9_undo_72 rfl (lv_at hl 1 rfl) ?_
      refine va_get (D := D) (ci := 8) (v := .int ((I 9) - 1)) (C := RX9) (T := TX9) (N := 11) hx hb hts hi9 hown hK hP 0 rfl rfl 9 (by decide) hw0 (fun _ h9 => h9) rfl dX9_undo_73 ?_
      exact wret_i hx hb hr hlocks ((va_up J 6 v_11), (va_up (va_up I 9 ((I 9) - 1)) 10 (I 10)), (va_up (va_up O 7 o_12) 8 o_13), R, (va_up RO 2 (va_up (RO 2) ((I 9) - 1).toNatClampNeg none)), LL, Y) ⟨v_11, ((I 9) - 1), (I 10), o_12, o_13, (va_up (RO 2) ((I 9) - 1).toNatClampNeg none), ⟨hi_2, hi_20, hi_23, hi_6⟩, rfl⟩ hP hD hS dX9_undo_76
  · refine lv_aload_n hx hb dX9_undo_7 rfl (lv_at hl 0 rfl) ?_
    refine lv_ldc (v := (-100006)) hx hb hown hw8 dX9_undo_8 ?_
    refine kM_i (As := [.int (-100006)]) (rest := []) (q0 := 0) ⟨hx, hb, hml, hown, hts⟩ (t_X9_finding l D cy a _ (va_up J 6 (J 6)) (va_up (va_up I 9 (I 9)) 10 (I 10)) (va_up (va_up O 7 (O 7)) 8 (O 8)) R (va_up RO 2 (RO 2)) LL Y ((-100006) : Int32)   ) (cwV 1 hts gX9_undo_X9_finding rfl rfl rfl (by decide +kernel) ⟨Nat.le_of_ble_eq_true rfl, Nat.le_of_ble_eq_true rfl⟩) hK hN hP hD hS hA rfl rfl rfl hl.1 rfl (Nat.le_of_ble_eq_true rfl) dX9_undo_10 ⟨Nat.le_of_ble_eq_true rfl, Nat.le_of_ble_eq_true rfl⟩ (fun r_24 u H locs hw hP hD hS => ?_)
    obtain ⟨w_25, rfl, rfl⟩ := hw
    have hP : va_P D vwCl (CT cy a (va_up J 6 (J 6)) (va_up (va_up I 9 (I 9)) 10 w_25) (va_up (va_up O 7 (O 7)) 8 (O 8)) R (va_up RO 2 (RO 2)) (LL ++ Y)) H := hP
    have hD : va_D A (CT cy a (va_up J 6 (J 6)) (va_up (va_up I 9 (I 9)) 10 w_25) (va_up (va_up O 7 (O 7)) 8 (O 8)) R (va_up RO 2 (RO 2)) (LL ++ Y)) := hD
    exact wret_i hx hb hr hlocks ((va_up J 6 (J 6)), (va_up (va_up I 9 (I 9)) 10 w_25), (va_up (va_up O 7 (O 7)) 8 (O 8)), R, (va_up RO 2 (RO 2)), LL, Y) ⟨(J 6), (I 9), w_25, (O 7), (O 8), (RO 2), ⟨hM.1, hM.2.1, hM.2.2.1, hM.2.2.2.1⟩, rfl⟩ hP hD hS dX9_undo_13
