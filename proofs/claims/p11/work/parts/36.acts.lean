theorem dX9_floor_0 : decode cX9_floor 0 = .ok (.iload_n 1, 1) := by decide +kernel
theorem dX9_floor_1 : decode cX9_floor 1 = .ok (.tableswitch 67 0 3 #[31, 39, 51, 59], 31) := by decide +kernel
theorem dX9_floor_32 : decode cX9_floor 32 = .ok (.aload_n 0, 1) := by decide +kernel
theorem dX9_floor_33 : decode cX9_floor 33 = .ok (.getfield 48, 3) := by decide +kernel
set_option maxRecDepth 20000 in
theorem ggX9_floor_J13_bitCount_95d88 : GoodIn wsX9_floor wsJ13_bitCount_95d88 := goodIn_r _ [7, 8, 9, 10] rfl (by decide +kernel)
set_option maxRecDepth 20000 in
theorem gX9_floor_J13_bitCount_95d88 : GoodIn wsX9_floor (va_wsS RX9 74 yJ13_bitCount_95d88 wsJ13_bitCount_95d88) := goodIn_app (goodIn_of _ (by decide +kernel)) ggX9_floor_J13_bitCount_95d88
theorem dX9_floor_36 : decode cX9_floor 36 = .ok (.invokestatic 74, 3) := by decide +kernel
theorem dX9_floor_39 : decode cX9_floor 39 = .ok (.ireturn, 1) := by decide +kernel
theorem dX9_floor_40 : decode cX9_floor 40 = .ok (.aload_n 0, 1) := by decide +kernel
theorem dX9_floor_41 : decode cX9_floor 41 = .ok (.getfield 48, 3) := by decide +kernel
theorem dX9_floor_44 : decode cX9_floor 44 = .ok (.ldc2_w 79, 3) := by decide +kernel
theorem dX9_floor_47 : decode cX9_floor 47 = .ok (.land, 1) := by decide +kernel
theorem dX9_floor_48 : decode cX9_floor 48 = .ok (.invokestatic 74, 3) := by decide +kernel
theorem dX9_floor_51 : decode cX9_floor 51 = .ok (.ireturn, 1) := by decide +kernel
theorem dX9_floor_52 : decode cX9_floor 52 = .ok (.aload_n 0, 1) := by decide +kernel
theorem dX9_floor_53 : decode cX9_floor 53 = .ok (.getfield 48, 3) := by decide +kernel
set_option maxRecDepth 20000 in
theorem ggX9_floor_X1_pieces : GoodIn wsX9_floor wsX1_pieces := goodIn_r _ [14, 15, 16, 17, 13, 18, 19, 20, 21, 22, 23, 24, 25, 26] rfl (by decide +kernel)
set_option maxRecDepth 20000 in
theorem gX9_floor_X1_pieces : GoodIn wsX9_floor (va_wsS RX9 81 yX1_pieces wsX1_pieces) := goodIn_app (goodIn_r _ [11, 12, 13] rfl (by decide +kernel)) ggX9_floor_X1_pieces
theorem dX9_floor_56 : decode cX9_floor 56 = .ok (.invokestatic 81, 3) := by decide +kernel
theorem dX9_floor_59 : decode cX9_floor 59 = .ok (.ireturn, 1) := by decide +kernel
theorem dX9_floor_60 : decode cX9_floor 60 = .ok (.aload_n 0, 1) := by decide +kernel
set_option maxRecDepth 20000 in
theorem ggX9_floor_X9_isWhole : GoodIn wsX9_floor wsX9_isWhole := goodIn_r _ [31, 1, 32, 33, 34, 30, 35, 36, 37, 38, 39, 40, 41, 42, 43, 44, 45, 46, 47, 48, 13, 49, 50, 15, 51, 12, 14, 16, 17, 18, 19, 20, 21, 22, 23, 24, 25, 26, 60, 61, 62, 63, 64, 65, 66, 67, 68, 69, 70, 71, 72, 73, 74, 75, 76, 77] rfl (by decide +kernel)
set_option maxRecDepth 20000 in
theorem gX9_floor_X9_isWhole : GoodIn wsX9_floor (wsV RX9 84 RX9 yX9_isWhole wsX9_isWhole) := goodIn_app (goodIn_r _ [27, 28, 29, 30] rfl (by decide +kernel)) ggX9_floor_X9_isWhole
theorem dX9_floor_61 : decode cX9_floor 61 = .ok (.invokevirtual 84, 3) := by decide +kernel
set_option maxRecDepth 20000 in
theorem ggX9_floor_X9_asNumber : GoodIn wsX9_floor wsX9_asNumber := goodIn_r _ [54] rfl (by decide +kernel)
set_option maxRecDepth 20000 in
theorem gX9_floor_X9_asNumber : GoodIn wsX9_floor (va_wsS RX9 70 yX9_asNumber wsX9_asNumber) := goodIn_app (goodIn_r _ [52, 53, 30] rfl (by decide +kernel)) ggX9_floor_X9_asNumber
theorem dX9_floor_64 : decode cX9_floor 64 = .ok (.invokestatic 70, 3) := by decide +kernel
theorem dX9_floor_67 : decode cX9_floor 67 = .ok (.ireturn, 1) := by decide +kernel
theorem dX9_floor_68 : decode cX9_floor 68 = .ok (.aload_n 0, 1) := by decide +kernel
theorem dX9_floor_69 : decode cX9_floor 69 = .ok (.ldc 43, 2) := by decide +kernel
set_option maxRecDepth 20000 in
theorem ggX9_floor_X9_finding : GoodIn wsX9_floor wsX9_finding := goodIn_r _ [58, 59, 60, 61, 62, 63, 64, 65, 66, 67, 68, 69, 70] rfl (by decide +kernel)
set_option maxRecDepth 20000 in
theorem gX9_floor_X9_finding : GoodIn wsX9_floor (wsV RX9 44 RX9 yX9_finding wsX9_finding) := goodIn_app (goodIn_r _ [55, 56, 57, 30] rfl (by decide +kernel)) ggX9_floor_X9_finding
theorem dX9_floor_71 : decode cX9_floor 71 = .ok (.invokevirtual 44, 3) := by decide +kernel
theorem dX9_floor_74 : decode cX9_floor 74 = .ok (.ireturn, 1) := by decide +kernel
set_option maxRecDepth 20000 in
theorem ihX9_floor_9 : ∀ w ∈ u_ws RX9 TX9 11, w ∈ wsX9_floor := fun _ h => List.mem_cons_of_mem _ (List.mem_append_left _ (List.mem_append_right _ h))
set_option maxHeartbeats 4000000 in
set_option maxRecDepth 100000 in
theorem t_X9_floor (l : Launch) (D : va_G) (cy : Nat → ClassId) (a : Nat → Nat) (sz : Nat) (J : Nat → Int64) (I : Nat → Int32) (O : Nat → Option Nat) (R : Nat → Nat → Int32) (RO : Nat → Nat → Option Nat) (LL : va_W) (Y : va_W) (x0 : Int32) (hM : CI a Y I O RO) : Met l yX9_floor wsX9_floor ({ frames := 5, cells := 0, slots := 0, locals := 115 }) (va_Pc [.ref (a 0), .int x0] (PW D cy sz (CT cy a J I O R RO (LL ++ Y)))) (va_Qi (fun r (u : TS) => ∃ (w0 : Int32), (True) ∧ u = (J, (va_up I 10 w0), O, R, RO, LL, Y)) (BW D (va_A (CT cy a J I O R RO (LL ++ Y)) sz) (CTu cy a)) (va_A (CT cy a J I O R RO (LL ++ Y)) sz)) 0 0 (va_A (CT cy a J I O R RO (LL ++ Y)) sz) := by
  refine Met.ofW (cc := cX9_floor) (maxL := 2) (ret := (some .int)) (by decide) rfl ?_
  intro p e s m args below meth c s₁ B hml hv
  obtain ⟨rfl, rfl, hP, hK, hN, hD0⟩ := hv
  have hx := B.exec
  have hb := B.bytes
  have hr := B.returns
  have hts := atoms_spec (ws := wsX9_floor) B.pre
  have hown : s.vm.findClass RX9 = some m.cls := findClass_of_methodNamed B.named
  have hlocks := B.notSynchronized
  have hw0 := hts (.fieldLink RX9 48 "ParquetLayer" "fields" "J") (by decide +kernel)
  have hw1 := hts (.constantLong RX9 79 (-6172840429334713771)) (by decide +kernel)
  have hw2 := hts (.constant RX9 43 (-100001)) (by decide +kernel)
  have hi9 := ihX9_floor_9
  have hD := hD0.self (sz := s.heap.size)
  generalize hAe : va_A (CT cy a J I O R RO (LL ++ Y)) s.heap.size = A at hD ⊢
  have hA : ∀ q : Nat, s.heap.size ≤ q → A q := fun q h => by rw [← hAe]; exact Or.inr h
  have hS : va_S A s.heap s.heap [] := va_S.rf
  have hl := lv_entry ([.ref (a 0), .int x0]) (n := 2) (Nat.le_of_ble_eq_true rfl)
  rw [lg_entry_eq]
  generalize (lg_sl ([.ref (a 0), .int x0]) ++ List.replicate (2 - (lg_sl ([.ref (a 0), .int x0])).length) Slot.unset).toArray = ls at hl ⊢
  have hl : lv_has ls 2 [(0, .ref (a 0)), (1, .int x0)] := hl
  have hRO0 := hM.2.2.2.2.2.2.2.2.1
  have hRO1 := hM.2.2.2.2.2.2.2.2.2.1
  have hRO2 := hM.2.2.2.2.2.2.2.2.2.2.1
  have hRO3 := hM.2.2.2.2.2.2.2.2.2.2.2
  have hP : va_P D vwCl (CT cy a J (va_up I 10 (I 10)) O R RO (LL ++ Y)) s.heap := hP
  have hD : va_D A (CT cy a J (va_up I 10 (I 10)) O R RO (LL ++ Y)) := hD
  refine lv_iload_n hx hb dX9_floor_0 rfl (lv_at hl 1 rfl) ?_
  by_cases c_1 : x0 = 0
  · refine lv_tableIn (off := 31) (tgt := 32) hx hb dX9_floor_1 (by rw [c_1]; decide) (by rw [c_1]; decide) (by rw [c_1]; rfl) (by decide) ?_
    refine lv_aload_n hx hb dX9_floor_32 rfl (lv_at hl 0 rfl) ?_
    refine va_get (D := D) (ci := 8) (v := .long (J 6)) (C := RX9) (T := TX9) (N := 11) hx hb hts hi9 hown hK hP 0 rfl rfl 6 (by decide) hw0 (fun _ h9 => h9) rfl dX9_floor_33 ?_
    refine kS_i (As := [.long (J 6)]) (rest := []) ⟨hx, hb, hml, hown, hts⟩ (c_J13_bitCount_95d88 l (J 6)) (va_cwS 1 hts gX9_floor_J13_bitCount_95d88 rfl rfl rfl (by decide +kernel) ⟨Nat.le_of_ble_eq_true rfl, Nat.le_of_ble_eq_true rfl⟩) rfl hl.1 rfl (Nat.le_of_ble_eq_true rfl) dX9_floor_36 ⟨Nat.le_of_ble_eq_true rfl, Nat.le_of_ble_eq_true rfl⟩ ?_
    exact wret_i hx hb hr hlocks (J, (va_up I 10 (I 10)), O, R, RO, LL, Y) ⟨(I 10), trivial, rfl⟩ hP hD hS dX9_floor_39
  by_cases c_2 : x0 = 1
  · refine lv_tableIn (off := 39) (tgt := 40) hx hb dX9_floor_1 (by rw [c_2]; decide) (by rw [c_2]; decide) (by rw [c_2]; rfl) (by decide) ?_
    refine lv_aload_n hx hb dX9_floor_40 rfl (lv_at hl 0 rfl) ?_
    refine va_get (D := D) (ci := 8) (v := .long (J 6)) (C := RX9) (T := TX9) (N := 11) hx hb hts hi9 hown hK hP 0 rfl rfl 6 (by decide) hw0 (fun _ h9 => h9) rfl dX9_floor_41 ?_
    refine lv_ldc2 (v := (-6172840429334713771)) hx hb hown hw1 dX9_floor_44 ?_
    refine lv_land hx hb dX9_floor_47 ?_
    refine kS_i (As := [.long ((J 6) &&& (-6172840429334713771))]) (rest := []) ⟨hx, hb, hml, hown, hts⟩ (c_J13_bitCount_95d88 l ((J 6) &&& (-6172840429334713771))) (va_cwS 1 hts gX9_floor_J13_bitCount_95d88 rfl rfl rfl (by decide +kernel) ⟨Nat.le_of_ble_eq_true rfl, Nat.le_of_ble_eq_true rfl⟩) rfl hl.1 rfl (Nat.le_of_ble_eq_true rfl) dX9_floor_48 ⟨Nat.le_of_ble_eq_true rfl, Nat.le_of_ble_eq_true rfl⟩ ?_
    exact wret_i hx hb hr hlocks (J, (va_up I 10 (I 10)), O, R, RO, LL, Y) ⟨(I 10), trivial, rfl⟩ hP hD hS dX9_floor_51
  by_cases c_3 : x0 = 2
  · refine lv_tableIn (off := 51) (tgt := 52) hx hb dX9_floor_1 (by rw [c_3]; decide) (by rw [c_3]; decide) (by rw [c_3]; rfl) (by decide) ?_
    refine lv_aload_n hx hb dX9_floor_52 rfl (lv_at hl 0 rfl) ?_
    refine va_get (D := D) (ci := 8) (v := .long (J 6)) (C := RX9) (T := TX9) (N := 11) hx hb hts hi9 hown hK hP 0 rfl rfl 6 (by decide) hw0 (fun _ h9 => h9) rfl dX9_floor_53 ?_
    refine kSa_i (As := [.long (J 6)]) (rest := []) ⟨hx, hb, hml, hown, hts⟩ (t_X1_pieces l (J 6) ) (va_cwS 1 hts gX9_floor_X1_pieces rfl rfl rfl (by decide +kernel) ⟨Nat.le_of_ble_eq_true rfl, Nat.le_of_ble_eq_true rfl⟩) rfl hl.1 rfl (Nat.le_of_ble_eq_true rfl) dX9_floor_56 ⟨Nat.le_of_ble_eq_true rfl, Nat.le_of_ble_eq_true rfl⟩ (fun r_4 hr_5 => ?_)
    exact wret_i hx hb hr hlocks (J, (va_up I 10 (I 10)), O, R, RO, LL, Y) ⟨(I 10), trivial, rfl⟩ hP hD hS dX9_floor_59
  by_cases c_6 : x0 = 3
  · refine lv_tableIn (off := 59) (tgt := 60) hx hb dX9_floor_1 (by rw [c_6]; decide) (by rw [c_6]; decide) (by rw [c_6]; rfl) (by decide) ?_
    refine lv_aload_n hx hb dX9_floor_60 rfl (lv_at hl 0 rfl) ?_
    refine kRa_i (As := []) (rest := []) (q0 := 0) ⟨hx, hb, hml, hown, hts⟩ (t_X9_isWhole l D cy a _ J (va_up I 10 (I 10)) O R RO LL Y   ⟨hM.1, hM.2.1, hM.2.2.1, hM.2.2.2.1, hM.2.2.2.2.1, hM.2.2.2.2.2.1, hM.2.2.2.2.2.2.1, hM.2.2.2.2.2.2.2.1, hRO0, hRO1, hRO2, hRO3⟩) (cwV 0 hts gX9_floor_X9_isWhole rfl rfl rfl (by decide +kernel) ⟨Nat.le_of_ble_eq_true rfl, Nat.le_of_ble_eq_true rfl⟩) hK hN hP hD rfl rfl rfl hl.1 rfl (Nat.le_of_ble_eq_true rfl) dX9_floor_61 ⟨Nat.le_of_ble_eq_true rfl, Nat.le_of_ble_eq_true rfl⟩ (fun r_7 hr_8 => ?_)
    obtain ⟨zb_9, rfl⟩ := hr_8
    refine kS_i (As := [.int (bI zb_9)]) (rest := []) ⟨hx, hb, hml, hown, hts⟩ (c_X9_asNumber l zb_9) (va_cwS 1 hts gX9_floor_X9_asNumber rfl rfl rfl (by decide +kernel) ⟨Nat.le_of_ble_eq_true rfl, Nat.le_of_ble_eq_true rfl⟩) rfl hl.1 rfl (Nat.le_of_ble_eq_true rfl) dX9_floor_64 ⟨Nat.le_of_ble_eq_true rfl, Nat.le_of_ble_eq_true rfl⟩ ?_
    exact wret_i hx hb hr hlocks (J, (va_up I 10 (I 10)), O, R, RO, LL, Y) ⟨(I 10), trivial, rfl⟩ hP hD hS dX9_floor_67
  refine lv_tableOut (tgt := 68) hx hb dX9_floor_1 (sw_out 0 3 (by decide) (by decide) (fun k hk1 hk2 => by have hq : k = 0 ∨ k = 1 ∨ k = 2 ∨ k = 3 := (by omega); rcases hq with rfl | rfl | rfl | rfl <;> assumption)) (by decide) ?_
  refine lv_aload_n hx hb dX9_floor_68 rfl (lv_at hl 0 rfl) ?_
  refine lv_ldc (v := (-100001)) hx hb hown hw2 dX9_floor_69 ?_
  refine kM_i (As := [.int (-100001)]) (rest := []) (q0 := 0) ⟨hx, hb, hml, hown, hts⟩ (t_X9_finding l D cy a _ J (va_up I 10 (I 10)) O R RO LL Y ((-100001) : Int32)   ) (cwV 1 hts gX9_floor_X9_finding rfl rfl rfl (by decide +kernel) ⟨Nat.le_of_ble_eq_true rfl, Nat.le_of_ble_eq_true rfl⟩) hK hN hP hD hS hA rfl rfl rfl hl.1 rfl (Nat.le_of_ble_eq_true rfl) dX9_floor_71 ⟨Nat.le_of_ble_eq_true rfl, Nat.le_of_ble_eq_true rfl⟩ (fun r_10 u H locs hw hP hD hS => ?_)
  obtain ⟨w_11, rfl, rfl⟩ := hw
  have hP : va_P D vwCl (CT cy a J (va_up I 10 w_11) O R RO (LL ++ Y)) H := hP
  have hD : va_D A (CT cy a J (va_up I 10 w_11) O R RO (LL ++ Y)) := hD
  exact wret_i hx hb hr hlocks (J, (va_up I 10 w_11), O, R, RO, LL, Y) ⟨w_11, trivial, rfl⟩ hP hD hS dX9_floor_74
theorem dX9_told_0 : decode cX9_told 0 = .ok (.aload_n 0, 1) := by decide +kernel
theorem dX9_told_1 : decode cX9_told 1 = .ok (.iload_n 1, 1) := by decide +kernel
set_option maxRecDepth 20000 in
theorem ggX9_told_X9_stoneOf : GoodIn wsX9_told wsX9_stoneOf := goodIn_r _ [11, 12, 13, 14, 41, 42, 43, 44, 45, 46, 47, 48, 49, 50, 51, 34, 35, 36, 37, 38, 39, 40] rfl (by decide +kernel)
set_option maxRecDepth 20000 in
theorem gX9_told_X9_stoneOf : GoodIn wsX9_told (wsV RX9 141 RX9 yX9_stoneOf wsX9_stoneOf) := goodIn_app (goodIn_r _ [7, 8, 9, 10] rfl (by decide +kernel)) ggX9_told_X9_stoneOf
theorem dX9_told_2 : decode cX9_told 2 = .ok (.invokevirtual 141, 3) := by decide +kernel
theorem dX9_told_5 : decode cX9_told 5 = .ok (.astore_n 3, 1) := by decide +kernel
theorem dX9_told_6 : decode cX9_told 6 = .ok (.aload_n 3, 1) := by decide +kernel
theorem dX9_told_7 : decode cX9_told 7 = .ok (.ifnonnull 10, 3) := by decide +kernel
theorem dX9_told_17 : decode cX9_told 17 = .ok (.iload_n 2, 1) := by decide +kernel
theorem dX9_told_18 : decode cX9_told 18 = .ok (.tableswitch 87 0 4 #[34, 39, 44, 52, 57], 34) := by decide +kernel
theorem dX9_told_52 : decode cX9_told 52 = .ok (.aload_n 3, 1) := by decide +kernel
theorem dX9_told_53 : decode cX9_told 53 = .ok (.getfield 145, 3) := by decide +kernel
theorem dX9_told_56 : decode cX9_told 56 = .ok (.ireturn, 1) := by decide +kernel
theorem dX9_told_57 : decode cX9_told 57 = .ok (.aload_n 3, 1) := by decide +kernel
theorem dX9_told_58 : decode cX9_told 58 = .ok (.getfield 155, 3) := by decide +kernel
theorem dX9_told_61 : decode cX9_told 61 = .ok (.ireturn, 1) := by decide +kernel
theorem dX9_told_62 : decode cX9_told 62 = .ok (.aload_n 3, 1) := by decide +kernel
theorem dX9_told_63 : decode cX9_told 63 = .ok (.getfield 158, 3) := by decide +kernel
set_option maxRecDepth 20000 in
theorem ggX9_told_X9_asNumber : GoodIn wsX9_told wsX9_asNumber := goodIn_r _ [22] rfl (by decide +kernel)
set_option maxRecDepth 20000 in
theorem gX9_told_X9_asNumber : GoodIn wsX9_told (va_wsS RX9 70 yX9_asNumber wsX9_asNumber) := goodIn_app (goodIn_r _ [20, 21, 10] rfl (by decide +kernel)) ggX9_told_X9_asNumber
theorem dX9_told_66 : decode cX9_told 66 = .ok (.invokestatic 70, 3) := by decide +kernel
theorem dX9_told_69 : decode cX9_told 69 = .ok (.ireturn, 1) := by decide +kernel
theorem dX9_told_70 : decode cX9_told 70 = .ok (.aload_n 3, 1) := by decide +kernel
theorem dX9_told_71 : decode cX9_told 71 = .ok (.getfield 162, 3) := by decide +kernel
theorem dX9_told_74 : decode cX9_told 74 = .ok (.ireturn, 1) := by decide +kernel
theorem dX9_told_75 : decode cX9_told 75 = .ok (.aload_n 0, 1) := by decide +kernel
theorem dX9_told_76 : decode cX9_told 76 = .ok (.getfield 133, 3) := by decide +kernel
theorem dX9_told_79 : decode cX9_told 79 = .ok (.ifnonnull 7, 3) := by decide +kernel
theorem dX9_told_86 : decode cX9_told 86 = .ok (.aload_n 0, 1) := by decide +kernel
theorem dX9_told_87 : decode cX9_told 87 = .ok (.getfield 133, 3) := by decide +kernel
theorem dX9_told_90 : decode cX9_told 90 = .ok (.aload_n 3, 1) := by decide +kernel
theorem dX9_told_91 : decode cX9_told 91 = .ok (.getfield 155, 3) := by decide +kernel
theorem dX9_told_94 : decode cX9_told 94 = .ok (.aload_n 3, 1) := by decide +kernel
theorem dX9_told_95 : decode cX9_told 95 = .ok (.getfield 158, 3) := by decide +kernel
set_option maxRecDepth 20000 in
theorem ggX9_told_X3_hasStone : GoodIn wsX9_told wsX3_hasStone := goodIn_r _ [27, 28, 29, 30, 31, 32, 33, 52, 53, 54] rfl (by decide +kernel)
set_option maxRecDepth 20000 in
theorem gX9_told_X3_hasStone : GoodIn wsX9_told (wsV RX9 165 RX3 yX3_hasStone wsX3_hasStone) := goodIn_app (goodIn_r _ [23, 24, 25, 26] rfl (by decide +kernel)) ggX9_told_X3_hasStone
theorem dX9_told_98 : decode cX9_told 98 = .ok (.invokevirtual 165, 3) := by decide +kernel
theorem dX9_told_101 : decode cX9_told 101 = .ok (.invokestatic 70, 3) := by decide +kernel
theorem dX9_told_104 : decode cX9_told 104 = .ok (.ireturn, 1) := by decide +kernel
theorem dX9_told_82 : decode cX9_told 82 = .ok (.iconst (-1), 1) := by decide +kernel
theorem dX9_told_83 : decode cX9_told 83 = .ok (.goto 21, 3) := by decide +kernel
theorem dX9_told_105 : decode cX9_told 105 = .ok (.aload_n 0, 1) := by decide +kernel
theorem dX9_told_106 : decode cX9_told 106 = .ok (.ldc 43, 2) := by decide +kernel
set_option maxRecDepth 20000 in
theorem ggX9_told_X9_finding : GoodIn wsX9_told wsX9_finding := goodIn_r _ [18, 19, 41, 42, 43, 44, 45, 46, 47, 48, 49, 50, 51] rfl (by decide +kernel)
set_option maxRecDepth 20000 in
theorem gX9_told_X9_finding : GoodIn wsX9_told (wsV RX9 44 RX9 yX9_finding wsX9_finding) := goodIn_app (goodIn_r _ [15, 16, 17, 10] rfl (by decide +kernel)) ggX9_told_X9_finding
theorem dX9_told_108 : decode cX9_told 108 = .ok (.invokevirtual 44, 3) := by decide +kernel
theorem dX9_told_111 : decode cX9_told 111 = .ok (.ireturn, 1) := by decide +kernel
theorem dX9_told_10 : decode cX9_told 10 = .ok (.aload_n 0, 1) := by decide +kernel
theorem dX9_told_11 : decode cX9_told 11 = .ok (.ldc 43, 2) := by decide +kernel
theorem dX9_told_13 : decode cX9_told 13 = .ok (.invokevirtual 44, 3) := by decide +kernel
theorem dX9_told_16 : decode cX9_told 16 = .ok (.ireturn, 1) := by decide +kernel
set_option maxRecDepth 20000 in
theorem ihX9_told_7 : ∀ w ∈ u_ws RX7 TX7 7, w ∈ wsX9_told := fun _ h => List.mem_cons_of_mem _ (List.mem_append_left _ (List.mem_append_left _ (List.mem_append_right _ h)))
set_option maxRecDepth 20000 in
theorem ihX9_told_9 : ∀ w ∈ u_ws RX9 TX9 11, w ∈ wsX9_told := fun _ h => List.mem_cons_of_mem _ (List.mem_append_left _ (List.mem_append_right _ h))
set_option maxHeartbeats 4000000 in
set_option maxRecDepth 100000 in
theorem t_X9_told (l : Launch) (D : va_G) (cy : Nat → ClassId) (a : Nat → Nat) (sz : Nat) (J : Nat → Int64) (I : Nat → Int32) (O : Nat → Option Nat) (R : Nat → Nat → Int32) (RO : Nat → Nat → Option Nat) (LL : va_W) (Y : va_W) (x0 : Int32) (x1 : Int32) (hM : CI a Y I O RO) : Met l yX9_told wsX9_told ({ frames := 2, cells := 0, slots := 0, locals := 44 }) (va_Pc [.ref (a 0), .int x0, .int x1] (PW D cy sz (CT cy a J I O R RO (LL ++ Y)))) (va_Qi (fun r (u : TS) => ∃ (w0 : Int32), ∃ (w1 : Option Nat), ((layO Y w1)) ∧ u = (J, (va_up I 10 w0), (va_up O 8 w1), R, RO, LL, Y)) (BW D (va_A (CT cy a J I O R RO (LL ++ Y)) sz) (CTu cy a)) (va_A (CT cy a J I O R RO (LL ++ Y)) sz)) 0 0 (va_A (CT cy a J I O R RO (LL ++ Y)) sz) := by
  refine Met.ofW (cc := cX9_told) (maxL := 4) (ret := (some .int)) (by decide) rfl ?_
  intro p e s m args below meth c s₁ B hml hv
  obtain ⟨rfl, rfl, hP, hK, hN, hD0⟩ := hv
  have hx := B.exec
  have hb := B.bytes
  have hr := B.returns
  have hts := atoms_spec (ws := wsX9_told) B.pre
  have hown : s.vm.findClass RX9 = some m.cls := findClass_of_methodNamed B.named
  have hlocks := B.notSynchronized
  have hw0 := hts (.fieldLink RX9 145 "ParquetLayer$Stone" "kind" "I") (by decide +kernel)
  have hw1 := hts (.fieldLink RX9 155 "ParquetLayer$Stone" "field" "I") (by decide +kernel)
  have hw2 := hts (.fieldLink RX9 158 "ParquetLayer$Stone" "across" "Z") (by decide +kernel)
  have hw3 := hts (.fieldLink RX9 162 "ParquetLayer$Stone" "colour" "I") (by decide +kernel)
  have hw4 := hts (.fieldLink RX9 133 "ParquetLayer" "hand" "LParquetLayer$Laying;") (by decide +kernel)
  have hw5 := hts (.constant RX9 43 (-100001)) (by decide +kernel)
  have hi7 := ihX9_told_7
  have hi9 := ihX9_told_9
  have hD := hD0.self (sz := s.heap.size)
  generalize hAe : va_A (CT cy a J I O R RO (LL ++ Y)) s.heap.size = A at hD ⊢
  have hA : ∀ q : Nat, s.heap.size ≤ q → A q := fun q h => by rw [← hAe]; exact Or.inr h
  have hS : va_S A s.heap s.heap [] := va_S.rf
  have hl := lv_entry ([.ref (a 0), .int x0, .int x1]) (n := 4) (Nat.le_of_ble_eq_true rfl)
  rw [lg_entry_eq]
  generalize (lg_sl ([.ref (a 0), .int x0, .int x1]) ++ List.replicate (4 - (lg_sl ([.ref (a 0), .int x0, .int x1])).length) Slot.unset).toArray = ls at hl ⊢
  have hl : lv_has ls 4 [(0, .ref (a 0)), (1, .int x0), (2, .int x1)] := hl
  have hRO0 := hM.2.2.2.2.2.2.2.2.1
  have hRO1 := hM.2.2.2.2.2.2.2.2.2.1
  have hRO2 := hM.2.2.2.2.2.2.2.2.2.2.1
  have hRO3 := hM.2.2.2.2.2.2.2.2.2.2.2
  have hP : va_P D vwCl (CT cy a J (va_up I 10 (I 10)) (va_up O 8 (O 8)) R RO (LL ++ Y)) s.heap := hP
  have hD : va_D A (CT cy a J (va_up I 10 (I 10)) (va_up O 8 (O 8)) R RO (LL ++ Y)) := hD
  refine lv_aload_n hx hb dX9_told_0 rfl (lv_at hl 0 rfl) ?_
  refine lv_iload_n hx hb dX9_told_1 rfl (lv_at hl 1 rfl) ?_
  refine kR_q (As := [.int x0]) (rest := []) (q0 := 0) ⟨hx, hb, hml, hown, hts⟩ (t_X9_stoneOf l D cy a _ J (va_up I 10 (I 10)) (va_up O 8 (O 8)) R RO LL Y x0  ⟨hM.1, hM.2.1, hM.2.2.1, hM.2.2.2.1, hM.2.2.2.2.1, hM.2.2.2.2.2.1, hM.2.2.2.2.2.2.1, hM.2.2.2.2.2.2.2.1, hRO0, hRO1, hRO2, hRO3⟩) (cwV 1 hts gX9_told_X9_stoneOf rfl rfl rfl (by decide +kernel) ⟨Nat.le_of_ble_eq_true rfl, Nat.le_of_ble_eq_true rfl⟩) hK hN hP hD rfl rfl rfl hl.1 rfl (Nat.le_of_ble_eq_true rfl) dX9_told_2 ⟨Nat.le_of_ble_eq_true rfl, Nat.le_of_ble_eq_true rfl⟩ (fun r_1 hr_2 => ?_)
  refine lv_astore_nO (lv' := [(3, va_rf r_1), (0, .ref (a 0)), (1, .int x0), (2, .int x1)]) hx hb dX9_told_5 rfl hl (by decide) rfl (fun ls hl => ?_)
  refine lv_aload_nO hx hb dX9_told_6 rfl (lv_at hl 0 rfl) ?_
  refine lv_ifnonnullO (tgt := 17) hx hb dX9_told_7 (by decide) (fun c_3 => ?_) (fun c_3 => ?_)
  · obtain ⟨b_4, o_8, v_7, v_9, v_10, z_11, v_12, v_13, e_6, hm_5⟩ := stq_some hr_2 c_3
    subst e_6
    refine lv_iload_n hx hb dX9_told_17 rfl (lv_at hl 3 rfl) ?_
    by_cases c_14 : x1 = 0
    · refine lv_tableIn (off := 34) (tgt := 52) hx hb dX9_told_18 (by rw [c_14]; decide) (by rw [c_14]; decide) (by rw [c_14]; rfl) (by decide) ?_
      refine lv_aload_n hx hb dX9_told_52 rfl (lv_at hl 0 rfl) ?_
      obtain ⟨k_15, hk_16⟩ : ∃ k : Nat, (CT cy a J (va_up I 10 (I 10)) (va_up O 8 (O 8)) R RO (LL ++ Y))[k]? = some (b_4, .inr (6, [va_rf o_8, .int v_7, .int v_9, .int v_10, .int (bI z_11), .int v_12, .long v_13])) := pixT hm_5
      refine va_get (D := D) (ci := 6) (v := .int v_9) (C := RX7) (T := TX7) (N := 7) hx hb hts hi7 hown hK hP k_15 hk_16 rfl 2 (by decide) hw0 (fun _ h9 => h9) rfl dX9_told_53 ?_
      exact wret_i hx hb hr hlocks (J, (va_up I 10 (I 10)), (va_up O 8 (O 8)), R, RO, LL, Y) ⟨(I 10), (O 8), hM.2.2.1, rfl⟩ hP hD hS dX9_told_56
    by_cases c_17 : x1 = 1
    · refine lv_tableIn (off := 39) (tgt := 57) hx hb dX9_told_18 (by rw [c_17]; decide) (by rw [c_17]; decide) (by rw [c_17]; rfl) (by decide) ?_
      refine lv_aload_n hx hb dX9_told_57 rfl (lv_at hl 0 rfl) ?_
      obtain ⟨k_18, hk_19⟩ : ∃ k : Nat, (CT cy a J (va_up I 10 (I 10)) (va_up O 8 (O 8)) R RO (LL ++ Y))[k]? = some (b_4, .inr (6, [va_rf o_8, .int v_7, .int v_9, .int v_10, .int (bI z_11), .int v_12, .long v_13])) := pixT hm_5
      refine va_get (D := D) (ci := 6) (v := .int v_10) (C := RX7) (T := TX7) (N := 7) hx hb hts hi7 hown hK hP k_18 hk_19 rfl 3 (by decide) hw1 (fun _ h9 => h9) rfl dX9_told_58 ?_
      exact wret_i hx hb hr hlocks (J, (va_up I 10 (I 10)), (va_up O 8 (O 8)), R, RO, LL, Y) ⟨(I 10), (O 8), hM.2.2.1, rfl⟩ hP hD hS dX9_told_61
    by_cases c_20 : x1 = 2
    · refine lv_tableIn (off := 44) (tgt := 62) hx hb dX9_told_18 (by rw [c_20]; decide) (by rw [c_20]; decide) (by rw [c_20]; rfl) (by decide) ?_
      refine lv_aload_n hx hb dX9_told_62 rfl (lv_at hl 0 rfl) ?_
      obtain ⟨k_21, hk_22⟩ : ∃ k : Nat, (CT cy a J (va_up I 10 (I 10)) (va_up O 8 (O 8)) R RO (LL ++ Y))[k]? = some (b_4, .inr (6, [va_rf o_8, .int v_7, .int v_9, .int v_10, .int (bI z_11), .int v_12, .long v_13])) := pixT hm_5
      refine va_get (D := D) (ci := 6) (v := .int (bI z_11)) (C := RX7) (T := TX7) (N := 7) hx hb hts hi7 hown hK hP k_21 hk_22 rfl 4 (by decide) hw2 (fun _ h9 => h9) rfl dX9_told_63 ?_
      refine kS_i (As := [.int (bI z_11)]) (rest := []) ⟨hx, hb, hml, hown, hts⟩ (c_X9_asNumber l z_11) (va_cwS 1 hts gX9_told_X9_asNumber rfl rfl rfl (by decide +kernel) ⟨Nat.le_of_ble_eq_true rfl, Nat.le_of_ble_eq_true rfl⟩) rfl hl.1 rfl (Nat.le_of_ble_eq_true rfl) dX9_told_66 ⟨Nat.le_of_ble_eq_true rfl, Nat.le_of_ble_eq_true rfl⟩ ?_
      exact wret_i hx hb hr hlocks (J, (va_up I 10 (I 10)), (va_up O 8 (O 8)), R, RO, LL, Y) ⟨(I 10), (O 8), hM.2.2.1, rfl⟩ hP hD hS dX9_told_69
    by_cases c_23 : x1 = 3
    · refine lv_tableIn (off := 52) (tgt := 70) hx hb dX9_told_18 (by rw [c_23]; decide) (by rw [c_23]; decide) (by rw [c_23]; rfl) (by decide) ?_
      refine lv_aload_n hx hb dX9_told_70 rfl (lv_at hl 0 rfl) ?_
      obtain ⟨k_24, hk_25⟩ : ∃ k : Nat, (CT cy a J (va_up I 10 (I 10)) (va_up O 8 (O 8)) R RO (LL ++ Y))[k]? = some (b_4, .inr (6, [va_rf o_8, .int v_7, .int v_9, .int v_10, .int (bI z_11), .int v_12, .long v_13])) := pixT hm_5
      refine va_get (D := D) (ci := 6) (v := .int v_12) (C := RX7) (T := TX7) (N := 7) hx hb hts hi7 hown hK hP k_24 hk_25 rfl 5 (by decide) hw3 (fun _ h9 => h9) rfl dX9_told_71 ?_
      exact wret_i hx hb hr hlocks (J, (va_up I 10 (I 10)), (va_up O 8 (O 8)), R, RO, LL, Y) ⟨(I 10), (O 8), hM.2.2.1, rfl⟩ hP hD hS dX9_told_74
    by_cases c_26 : x1 = 4
    · refine lv_tableIn (off := 57) (tgt := 75) hx hb dX9_told_18 (by rw [c_26]; decide) (by rw [c_26]; decide) (by rw [c_26]; rfl) (by decide) ?_
      refine lv_aload_n hx hb dX9_told_75 rfl (lv_at hl 1 rfl) ?_
      refine va_get (D := D) (ci := 8) (v := va_rf (O 8)) (C := RX9) (T := TX9) (N := 11) hx hb hts hi9 hown hK hP 0 rfl rfl 8 (by decide) hw4 (fun _ h9 => h9) rfl dX9_told_76 ?_
      refine lv_ifnonnullO (tgt := 86) hx hb dX9_told_79 (by decide) (fun c_27 => ?_) (fun c_27 => ?_)
      · obtain ⟨b_28, v_31, v_32, v_33, e_30, hm_29⟩ := lay_some hM.2.2.1 c_27
        rw [e_30] at hP hD
        have hi_34 : layO Y (some b_28) := by rw [← e_30]; exact hM.2.2.1
        refine lv_aload_n hx hb dX9_told_86 rfl (lv_at hl 1 rfl) ?_
        refine va_get (D := D) (ci := 8) (v := .ref b_28) (C := RX9) (T := TX9) (N := 11) hx hb hts hi9 hown hK hP 0 rfl rfl 8 (by decide) hw4 (fun _ h9 => h9) rfl dX9_told_87 ?_
        refine lv_aload_n hx hb dX9_told_90 rfl (lv_at hl 0 rfl) ?_
        obtain ⟨k_35, hk_36⟩ : ∃ k : Nat, (CT cy a J (va_up I 10 (I 10)) (va_up O 8 (some b_28)) R RO (LL ++ Y))[k]? = some (b_4, .inr (6, [va_rf o_8, .int v_7, .int v_9, .int v_10, .int (bI z_11), .int v_12, .long v_13])) := pixT hm_5
        refine va_get (D := D) (ci := 6) (v := .int v_10) (C := RX7) (T := TX7) (N := 7) hx hb hts hi7 hown hK hP k_35 hk_36 rfl 3 (by decide) hw1 (fun _ h9 => h9) rfl dX9_told_91 ?_
        refine lv_aload_n hx hb dX9_told_94 rfl (lv_at hl 0 rfl) ?_
        obtain ⟨k_37, hk_38⟩ : ∃ k : Nat, (CT cy a J (va_up I 10 (I 10)) (va_up O 8 (some b_28)) R RO (LL ++ Y))[k]? = some (b_4, .inr (6, [va_rf o_8, .int v_7, .int v_9, .int v_10, .int (bI z_11), .int v_12, .long v_13])) := pixT hm_5
        refine va_get (D := D) (ci := 6) (v := .int (bI z_11)) (C := RX7) (T := TX7) (N := 7) hx hb hts hi7 hown hK hP k_37 hk_38 rfl 4 (by decide) hw2 (fun _ h9 => h9) rfl dX9_told_95 ?_
        obtain ⟨k_39, hk_40⟩ : ∃ k : Nat, (CT cy a J (va_up I 10 (I 10)) (va_up O 8 (some b_28)) R RO (LL ++ Y))[k]? = some (b_28, .inr (2, [.int v_31, .long v_32, .long v_33])) := pixT hm_29
        refine kRa_i (As := [.int v_10, .int (bI z_11)]) (rest := []) (q0 := k_39) ⟨hx, hb, hml, hown, hts⟩ (t_X3_hasStone l D cy _ (CT cy a J (va_up I 10 (I 10)) (va_up O 8 (some b_28)) R RO (LL ++ Y)) k_39 b_28 v_31 v_32 v_33 hk_40 v_10 z_11) (cwV 2 hts gX9_told_X3_hasStone rfl rfl rfl (by decide +kernel) ⟨Nat.le_of_ble_eq_true rfl, Nat.le_of_ble_eq_true rfl⟩) hK hN hP hD hk_40 rfl rfl hl.1 rfl (Nat.le_of_ble_eq_true rfl) dX9_told_98 ⟨Nat.le_of_ble_eq_true rfl, Nat.le_of_ble_eq_true rfl⟩ (fun r_41 hr_42 => ?_)
        obtain ⟨zb_43, rfl⟩ := hr_42
        refine kS_i (As := [.int (bI zb_43)]) (rest := []) ⟨hx, hb, hml, hown, hts⟩ (c_X9_asNumber l zb_43) (va_cwS 1 hts gX9_told_X9_asNumber rfl rfl rfl (by decide +kernel) ⟨Nat.le_of_ble_eq_true rfl, Nat.le_of_ble_eq_true rfl⟩) rfl hl.1 rfl (Nat.le_of_ble_eq_true rfl) dX9_told_101 ⟨Nat.le_of_ble_eq_true rfl, Nat.le_of_ble_eq_true rfl⟩ ?_
        exact wret_i hx hb hr hlocks (J, (va_up I 10 (I 10)), (va_up O 8 (some b_28)), R, RO, LL, Y) ⟨(I 10), (some b_28), hi_34, rfl⟩ hP hD hS dX9_told_104
      · rw [c_27] at hP hD
        have hi_44 : layO Y none := by rw [← c_27]; exact hM.2.2.1
        refine lv_iconst (v := (-1)) hx hb dX9_told_82 (by decide) ?_
        refine lv_goto (tgt := 104) hx hb dX9_told_83 (by decide) ?_
        exact wret_i hx hb hr hlocks (J, (va_up I 10 (I 10)), (va_up O 8 none), R, RO, LL, Y) ⟨(I 10), none, hi_44, rfl⟩ hP hD hS dX9_told_104
    refine lv_tableOut (tgt := 105) hx hb dX9_told_18 (sw_out 0 4 (by decide) (by decide) (fun k hk1 hk2 => by have hq : k = 0 ∨ k = 1 ∨ k = 2 ∨ k = 3 ∨ k = 4 := (by omega); rcases hq with rfl | rfl | rfl | rfl | rfl <;> assumption)) (by decide) ?_
    refine lv_aload_n hx hb dX9_told_105 rfl (lv_at hl 1 rfl) ?_
    refine lv_ldc (v := (-100001)) hx hb hown hw5 dX9_told_106 ?_
    refine kM_i (As := [.int (-100001)]) (rest := []) (q0 := 0) ⟨hx, hb, hml, hown, hts⟩ (t_X9_finding l D cy a _ J (va_up I 10 (I 10)) (va_up O 8 (O 8)) R RO LL Y ((-100001) : Int32)   ) (cwV 1 hts gX9_told_X9_finding rfl rfl rfl (by decide +kernel) ⟨Nat.le_of_ble_eq_true rfl, Nat.le_of_ble_eq_true rfl⟩) hK hN hP hD hS hA rfl rfl rfl hl.1 rfl (Nat.le_of_ble_eq_true rfl) dX9_told_108 ⟨Nat.le_of_ble_eq_true rfl, Nat.le_of_ble_eq_true rfl⟩ (fun r_45 u H locs hw hP hD hS => ?_)
    obtain ⟨w_46, rfl, rfl⟩ := hw
    have hP : va_P D vwCl (CT cy a J (va_up I 10 w_46) (va_up O 8 (O 8)) R RO (LL ++ Y)) H := hP
    have hD : va_D A (CT cy a J (va_up I 10 w_46) (va_up O 8 (O 8)) R RO (LL ++ Y)) := hD
    exact wret_i hx hb hr hlocks (J, (va_up I 10 w_46), (va_up O 8 (O 8)), R, RO, LL, Y) ⟨w_46, (O 8), hM.2.2.1, rfl⟩ hP hD hS dX9_told_111
  · subst c_3
    refine lv_aload_n hx hb dX9_told_10 rfl (lv_at hl 1 rfl) ?_
    refine lv_ldc (v := (-100001)) hx hb hown hw5 dX9_told_11 ?_
    refine kM_i (As := [.int (-100001)]) (rest := []) (q0 := 0) ⟨hx, hb, hml, hown, hts⟩ (t_X9_finding l D cy a _ J (va_up I 10 (I 10)) (va_up O 8 (O 8)) R RO LL Y ((-100001) : Int32)   ) (cwV 1 hts gX9_told_X9_finding rfl rfl rfl (by decide +kernel) ⟨Nat.le_of_ble_eq_true rfl, Nat.le_of_ble_eq_true rfl⟩) hK hN hP hD hS hA rfl rfl rfl hl.1 rfl (Nat.le_of_ble_eq_true rfl) dX9_told_13 ⟨Nat.le_of_ble_eq_true rfl, Nat.le_of_ble_eq_true rfl⟩ (fun r_47 u H locs hw hP hD hS => ?_)
    obtain ⟨w_48, rfl, rfl⟩ := hw
    have hP : va_P D vwCl (CT cy a J (va_up I 10 w_48) (va_up O 8 (O 8)) R RO (LL ++ Y)) H := hP
    have hD : va_D A (CT cy a J (va_up I 10 w_48) (va_up O 8 (O 8)) R RO (LL ++ Y)) := hD
    exact wret_i hx hb hr hlocks (J, (va_up I 10 w_48), (va_up O 8 (O 8)), R, RO, LL, Y) ⟨w_48, (O 8), hM.2.2.1, rfl⟩ hP hD hS dX9_told_16
theorem dX9_all_0 : decode cX9_all 0 = .ok (.iload_n 1, 1) := by decide +kernel
theorem dX9_all_1 : decode cX9_all 1 = .ok (.tableswitch 62 0 3 #[31, 36, 41, 57], 31) := by decide +kernel
theorem dX9_all_32 : decode cX9_all 32 = .ok (.aload_n 0, 1) := by decide +kernel
set_option maxRecDepth 20000 in
theorem ggX9_all_X9_stoneCount : GoodIn wsX9_all wsX9_stoneCount := goodIn_r _ [8, 9, 10, 31, 32, 33, 34, 35, 36, 37, 38, 39, 40, 41, 42, 43, 44, 45, 46, 47, 48] rfl (by decide +kernel)
set_option maxRecDepth 20000 in
theorem gX9_all_X9_stoneCount : GoodIn wsX9_all (wsV RX9 100 RX9 yX9_stoneCount wsX9_stoneCount) := goodIn_app (goodIn_r _ [4, 5, 6, 7] rfl (by decide +kernel)) ggX9_all_X9_stoneCount
theorem dX9_all_33 : decode cX9_all 33 = .ok (.invokevirtual 100, 3) := by decide +kernel
theorem dX9_all_36 : decode cX9_all 36 = .ok (.ireturn, 1) := by decide +kernel
theorem dX9_all_37 : decode cX9_all 37 = .ok (.aload_n 0, 1) := by decide +kernel
set_option maxRecDepth 20000 in
theorem ggX9_all_X9_gluedCount : GoodIn wsX9_all wsX9_gluedCount := goodIn_r _ [14, 9, 15, 16, 17, 18, 19, 20, 21, 22, 7, 23, 24, 25, 26, 31, 32, 33, 34, 35, 36, 37, 38, 39, 40, 41, 42, 43, 44, 45, 46, 47, 48] rfl (by decide +kernel)
set_option maxRecDepth 20000 in
theorem gX9_all_X9_gluedCount : GoodIn wsX9_all (wsV RX9 320 RX9 yX9_gluedCount wsX9_gluedCount) := goodIn_app (goodIn_r _ [11, 12, 13, 7] rfl (by decide +kernel)) ggX9_all_X9_gluedCount
theorem dX9_all_38 : decode cX9_all 38 = .ok (.invokevirtual 320, 3) := by decide +kernel
theorem dX9_all_41 : decode cX9_all 41 = .ok (.ireturn, 1) := by decide +kernel
theorem dX9_all_42 : decode cX9_all 42 = .ok (.aload_n 0, 1) := by decide +kernel
theorem dX9_all_43 : decode cX9_all 43 = .ok (.getfield 133, 3) := by decide +kernel
theorem dX9_all_46 : decode cX9_all 46 = .ok (.ifnull 7, 3) := by decide +kernel
theorem dX9_all_53 : decode cX9_all 53 = .ok (.iconst 0, 1) := by decide +kernel
set_option maxRecDepth 20000 in
theorem ggX9_all_X9_asNumber : GoodIn wsX9_all wsX9_asNumber := goodIn_r _ [26] rfl (by decide +kernel)
set_option maxRecDepth 20000 in
theorem gX9_all_X9_asNumber : GoodIn wsX9_all (va_wsS RX9 70 yX9_asNumber wsX9_asNumber) := goodIn_app (goodIn_r _ [24, 25, 7] rfl (by decide +kernel)) ggX9_all_X9_asNumber
theorem dX9_all_54 : decode cX9_all 54 = .ok (.invokestatic 70, 3) := by decide +kernel
theorem dX9_all_57 : decode cX9_all 57 = .ok (.ireturn, 1) := by decide +kernel
theorem dX9_all_49 : decode cX9_all 49 = .ok (.iconst 1, 1) := by decide +kernel
theorem dX9_all_50 : decode cX9_all 50 = .ok (.goto 4, 3) := by decide +kernel
theorem dX9_all_58 : decode cX9_all 58 = .ok (.aload_n 0, 1) := by decide +kernel
theorem dX9_all_59 : decode cX9_all 59 = .ok (.getfield 323, 3) := by decide +kernel
theorem dX9_all_62 : decode cX9_all 62 = .ok (.ireturn, 1) := by decide +kernel
theorem dX9_all_63 : decode cX9_all 63 = .ok (.aload_n 0, 1) := by decide +kernel
theorem dX9_all_64 : decode cX9_all 64 = .ok (.ldc 43, 2) := by decide +kernel
set_option maxRecDepth 20000 in
theorem ggX9_all_X9_finding : GoodIn wsX9_all wsX9_finding := goodIn_r _ [30, 2, 31, 32, 33, 34, 35, 36, 37, 38, 39, 40, 41] rfl (by decide +kernel)
set_option maxRecDepth 20000 in
theorem gX9_all_X9_finding : GoodIn wsX9_all (wsV RX9 44 RX9 yX9_finding wsX9_finding) := goodIn_app (goodIn_r _ [27, 28, 29, 7] rfl (by decide +kernel)) ggX9_all_X9_finding
theorem dX9_all_66 : decode cX9_all 66 = .ok (.invokevirtual 44, 3) := by decide +kernel
theorem dX9_all_69 : decode cX9_all 69 = .ok (.ireturn, 1) := by decide +kernel
set_option maxRecDepth 20000 in
theorem ihX9_all_9 : ∀ w ∈ u_ws RX9 TX9 11, w ∈ wsX9_all := fun _ h => List.mem_cons_of_mem _ (List.mem_append_left _ (List.mem_append_right _ h))
set_option maxHeartbeats 4000000 in
set_option maxRecDepth 100000 in
theorem t_X9_all (l : Launch) (D : va_G) (cy : Nat → ClassId) (a : Nat → Nat) (sz : Nat) (J : Nat → Int64) (I : Nat → Int32) (O : Nat → Option Nat) (R : Nat → Nat → Int32) (RO : Nat → Nat → Option Nat) (LL : va_W) (Y : va_W) (x0 : Int32) (hM : CI a Y I O RO) : Met l yX9_all wsX9_all ({ frames := 3, cells := 0, slots := 0, locals := 63 }) (va_Pc [.ref (a 0), .int x0] (PW D cy sz (CT cy a J I O R RO (LL ++ Y)))) (va_Qi (fun r (u : TS) => ∃ (w0 : Int32), ∃ (w1 : Option Nat), ((layO Y w1)) ∧ u = (J, (va_up I 10 w0), (va_up O 8 w1), R, RO, LL, Y)) (BW D (va_A (CT cy a J I O R RO (LL ++ Y)) sz) (CTu cy a)) (va_A (CT cy a J I O R RO (LL ++ Y)) sz)) 0 0 (va_A (CT cy a J I O R RO (LL ++ Y)) sz) := by
  refine Met.ofW (cc := cX9_all) (maxL := 2) (ret := (some .int)) (by decide) rfl ?_
  intro p e s m args below meth c s₁ B hml hv
  obtain ⟨rfl, rfl, hP, hK, hN, hD0⟩ := hv
  have hx := B.exec
  have hb := B.bytes
  have hr := B.returns
  have hts := atoms_spec (ws := wsX9_all) B.pre
  have hown : s.vm.findClass RX9 = some m.cls := findClass_of_methodNamed B.named
  have hlocks := B.notSynchronized
  have hw0 := hts (.fieldLink RX9 133 "ParquetLayer" "hand" "LParquetLayer$Laying;") (by decide +kernel)
  have hw1 := hts (.fieldLink RX9 323 "ParquetLayer" "findings" "I") (by decide +kernel)
  have hw2 := hts (.constant RX9 43 (-100001)) (by decide +kernel)
  have hi9 := ihX9_all_9
  have hD := hD0.self (sz := s.heap.size)
  generalize hAe : va_A (CT cy a J I O R RO (LL ++ Y)) s.heap.size = A at hD ⊢
  have hA : ∀ q : Nat, s.heap.size ≤ q → A q := fun q h => by rw [← hAe]; exact Or.inr h
  have hS : va_S A s.heap s.heap [] := va_S.rf
  have hl := lv_entry ([.ref (a 0), .int x0]) (n := 2) (Nat.le_of_ble_eq_true rfl)
  rw [lg_entry_eq]
  generalize (lg_sl ([.ref (a 0), .int x0]) ++ List.replicate (2 - (lg_sl ([.ref (a 0), .int x0])).length) Slot.unset).toArray = ls at hl ⊢
  have hl : lv_has ls 2 [(0, .ref (a 0)), (1, .int x0)] := hl
  have hRO0 := hM.2.2.2.2.2.2.2.2.1
  have hRO1 := hM.2.2.2.2.2.2.2.2.2.1
  have hRO2 := hM.2.2.2.2.2.2.2.2.2.2.1
  have hRO3 := hM.2.2.2.2.2.2.2.2.2.2.2
  have hP : va_P D vwCl (CT cy a J (va_up I 10 (I 10)) (va_up O 8 (O 8)) R RO (LL ++ Y)) s.heap := hP
  have hD : va_D A (CT cy a J (va_up I 10 (I 10)) (va_up O 8 (O 8)) R RO (LL ++ Y)) := hD
  refine lv_iload_n hx hb dX9_all_0 rfl (lv_at hl 1 rfl) ?_
  by_cases c_1 : x0 = 0
  · refine lv_tableIn (off := 31) (tgt := 32) hx hb dX9_all_1 (by rw [c_1]; decide) (by rw [c_1]; decide) (by rw [c_1]; rfl) (by decide) ?_
    refine lv_aload_n hx hb dX9_all_32 rfl (lv_at hl 0 rfl) ?_
    refine kRa_i (As := []) (rest := []) (q0 := 0) ⟨hx, hb, hml, hown, hts⟩ (t_X9_stoneCount l D cy a _ J (va_up I 10 (I 10)) (va_up O 8 (O 8)) R RO LL Y   ⟨hM.1, hM.2.1, hM.2.2.1, hM.2.2.2.1, hM.2.2.2.2.1, hM.2.2.2.2.2.1, hM.2.2.2.2.2.2.1, hM.2.2.2.2.2.2.2.1, hRO0, hRO1, hRO2, hRO3⟩) (cwV 0 hts gX9_all_X9_stoneCount rfl rfl rfl (by decide +kernel) ⟨Nat.le_of_ble_eq_true rfl, Nat.le_of_ble_eq_true rfl⟩) hK hN hP hD rfl rfl rfl hl.1 rfl (Nat.le_of_ble_eq_true rfl) dX9_all_33 ⟨Nat.le_of_ble_eq_true rfl, Nat.le_of_ble_eq_true rfl⟩ (fun r_2 hr_3 => ?_)
    exact wret_i hx hb hr hlocks (J, (va_up I 10 (I 10)), (va_up O 8 (O 8)), R, RO, LL, Y) ⟨(I 10), (O 8), hM.2.2.1, rfl⟩ hP hD hS dX9_all_36
  by_cases c_4 : x0 = 1
  · refine lv_tableIn (off := 36) (tgt := 37) hx hb dX9_all_1 (by rw [c_4]; decide) (by rw [c_4]; decide) (by rw [c_4]; rfl) (by decide) ?_
    refine lv_aload_n hx hb dX9_all_37 rfl (lv_at hl 0 rfl) ?_
    refine kRa_i (As := []) (rest := []) (q0 := 0) ⟨hx, hb, hml, hown, hts⟩ (t_X9_gluedCount l D cy a _ J (va_up I 10 (I 10)) (va_up O 8 (O 8)) R RO LL Y   ⟨hM.1, hM.2.1, hM.2.2.1, hM.2.2.2.1, hM.2.2.2.2.1, hM.2.2.2.2.2.1, hM.2.2.2.2.2.2.1, hM.2.2.2.2.2.2.2.1, hRO0, hRO1, hRO2, hRO3⟩) (cwV 0 hts gX9_all_X9_gluedCount rfl rfl rfl (by decide +kernel) ⟨Nat.le_of_ble_eq_true rfl, Nat.le_of_ble_eq_true rfl⟩) hK hN hP hD rfl rfl rfl hl.1 rfl (Nat.le_of_ble_eq_true rfl) dX9_all_38 ⟨Nat.le_of_ble_eq_true rfl, Nat.le_of_ble_eq_true rfl⟩ (fun r_5 hr_6 => ?_)
    exact wret_i hx hb hr hlocks (J, (va_up I 10 (I 10)), (va_up O 8 (O 8)), R, RO, LL, Y) ⟨(I 10), (O 8), hM.2.2.1, rfl⟩ hP hD hS dX9_all_41
  by_cases c_7 : x0 = 2
  · refine lv_tableIn (off := 41) (tgt := 42) hx hb dX9_all_1 (by rw [c_7]; decide) (by rw [c_7]; decide) (by rw [c_7]; rfl) (by decide) ?_
    refine lv_aload_n hx hb dX9_all_42 rfl (lv_at hl 0 rfl) ?_
    refine va_get (D := D) (ci := 8) (v := va_rf (O 8)) (C := RX9) (T := TX9) (N := 11) hx hb hts hi9 hown hK hP 0 rfl rfl 8 (by decide) hw0 (fun _ h9 => h9) rfl dX9_all_43 ?_
    refine lv_ifnullO (tgt := 53) hx hb dX9_all_46 (by decide) (fun c_8 => ?_) (fun c_8 => ?_)
    · rw [c_8] at hP hD
      have hi_9 : layO Y none := by rw [← c_8]; exact hM.2.2.1
      refine lv_iconst (v := 0) hx hb dX9_all_53 (by decide) ?_
      refine kS_i (As := [.int 0]) (rest := []) ⟨hx, hb, hml, hown, hts⟩ (c_X9_asNumber l false) (va_cwS 1 hts gX9_all_X9_asNumber rfl rfl rfl (by decide +kernel) ⟨Nat.le_of_ble_eq_true rfl, Nat.le_of_ble_eq_true rfl⟩) rfl hl.1 rfl (Nat.le_of_ble_eq_true rfl) dX9_all_54 ⟨Nat.le_of_ble_eq_true rfl, Nat.le_of_ble_eq_true rfl⟩ ?_
      exact wret_i hx hb hr hlocks (J, (va_up I 10 (I 10)), (va_up O 8 none), R, RO, LL, Y) ⟨(I 10), none, hi_9, rfl⟩ hP hD hS dX9_all_57
    · obtain ⟨b_10, v_13, v_14, v_15, e_12, hm_11⟩ := lay_some hM.2.2.1 c_8
      rw [e_12] at hP hD
      have hi_16 : layO Y (some b_10) := by rw [← e_12]; exact hM.2.2.1
      refine lv_iconst (v := 1) hx hb dX9_all_49 (by decide) ?_
      refine lv_goto (tgt := 54) hx hb dX9_all_50 (by decide) ?_
      refine kS_i (As := [.int 1]) (rest := []) ⟨hx, hb, hml, hown, hts⟩ (c_X9_asNumber l true) (va_cwS 1 hts gX9_all_X9_asNumber rfl rfl rfl (by decide +kernel) ⟨Nat.le_of_ble_eq_true rfl, Nat.le_of_ble_eq_true rfl⟩) rfl hl.1 rfl (Nat.le_of_ble_eq_true rfl) dX9_all_54 ⟨Nat.le_of_ble_eq_true rfl, Nat.le_of_ble_eq_true rfl⟩ ?_
      exact wret_i hx hb hr hlocks (J, (va_up I 10 (I 10)), (va_up O 8 (some b_10)), R, RO, LL, Y) ⟨(I 10), (some b_10), hi_16, rfl⟩ hP hD hS dX9_all_57
  by_cases c_17 : x0 = 3
  · refine lv_tableIn (off := 57) (tgt := 58) hx hb dX9_all_1 (by rw [c_17]; decide) (by rw [c_17]; decide) (by rw [c_17]; rfl) (by decide) ?_
    refine lv_aload_n hx hb dX9_all_58 rfl (lv_at hl 0 rfl) ?_
    refine va_get (D := D) (ci := 8) (v := .int (I 10)) (C := RX9) (T := TX9) (N := 11) hx hb hts hi9 hown hK hP 0 rfl rfl 10 (by decide) hw1 (fun _ h9 => h9) rfl dX9_all_59 ?_
    exact wret_i hx hb hr hlocks (J, (va_up I 10 (I 10)), (va_up O 8 (O 8)), R, RO, LL, Y) ⟨(I 10), (O 8), hM.2.2.1, rfl⟩ hP hD hS dX9_all_62
  refine lv_tableOut (tgt := 63) hx hb dX9_all_1 (sw_out 0 3 (by decide) (by decide) (fun k hk1 hk2 => by have hq : k = 0 ∨ k = 1 ∨ k = 2 ∨ k = 3 := (by omega); rcases hq with rfl | rfl | rfl | rfl <;> assumption)) (by decide) ?_
  refine lv_aload_n hx hb dX9_all_63 rfl (lv_at hl 0 rfl) ?_
  refine lv_ldc (v := (-100001)) hx hb hown hw2 dX9_all_64 ?_
  refine kM_i (As := [.int (-100001)]) (rest := []) (q0 := 0) ⟨hx, hb, hml, hown, hts⟩ (t_X9_finding l D cy a _ J (va_up I 10 (I 10)) (va_up O 8 (O 8)) R RO LL Y ((-100001) : Int32)   ) (cwV 1 hts gX9_all_X9_finding rfl rfl rfl (by decide +kernel) ⟨Nat.le_of_ble_eq_true rfl, Nat.le_of_ble_eq_true rfl⟩) hK hN hP hD hS hA rfl rfl rfl hl.1 rfl (Nat.le_of_ble_eq_true rfl) dX9_all_66 ⟨Nat.le_of_ble_eq_true rfl, Nat.le_of_ble_eq_true rfl⟩ (fun r_18 u H locs hw hP hD hS => ?_)
  obtain ⟨w_19, rfl, rfl⟩ := hw
  have hP : va_P D vwCl (CT cy a J (va_up I 10 w_19) (va_up O 8 (O 8)) R RO (LL ++ Y)) H := hP
  have hD : va_D A (CT cy a J (va_up I 10 w_19) (va_up O 8 (O 8)) R RO (LL ++ Y)) := hD
  exact wret_i hx hb hr hlocks (J, (va_up I 10 w_19), (va_up O 8 (O 8)), R, RO, LL, Y) ⟨w_19, (O 8), hM.2.2.1, rfl⟩ hP hD hS dX9_all_69
