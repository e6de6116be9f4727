theorem dX9_isLaying_0 : decode cX9_isLaying 0 = .ok (.iload_n 1, 1) := by decide +kernel
theorem dX9_isLaying_1 : decode cX9_isLaying 1 = .ok (.ifCond .lt 18, 3) := by decide +kernel
theorem dX9_isLaying_19 : decode cX9_isLaying 19 = .ok (.iconst 0, 1) := by decide +kernel
theorem dX9_isLaying_20 : decode cX9_isLaying 20 = .ok (.ireturn, 1) := by decide +kernel
theorem dX9_isLaying_4 : decode cX9_isLaying 4 = .ok (.iload_n 1, 1) := by decide +kernel
theorem dX9_isLaying_5 : decode cX9_isLaying 5 = .ok (.aload_n 0, 1) := by decide +kernel
set_option maxRecDepth 20000 in
theorem ggX9_isLaying_X9_knownLayings : GoodIn wsX9_isLaying wsX9_knownLayings := goodIn_r _ [5, 6, 7, 8, 9, 10, 11, 12, 13, 14, 15, 16, 17, 18, 19, 20, 21, 22, 4, 23, 24, 25, 26, 27, 28, 29, 30, 31, 32, 33, 34, 35, 36, 37, 38, 39, 40, 41, 42, 43, 44, 45, 46, 47, 48, 49, 50, 51, 52, 53, 58, 59, 60, 61, 62, 63, 64, 65, 66, 67, 68, 69, 70, 71, 72, 73, 74, 75, 76, 77, 78, 79] rfl (by decide +kernel)
set_option maxRecDepth 20000 in
theorem gX9_isLaying_X9_knownLayings : GoodIn wsX9_isLaying (wsV RX9 170 RX9 yX9_knownLayings wsX9_knownLayings) := goodIn_app (goodIn_r _ [1, 2, 3, 4] rfl (by decide +kernel)) ggX9_isLaying_X9_knownLayings
theorem dX9_isLaying_6 : decode cX9_isLaying 6 = .ok (.invokevirtual 170, 3) := by decide +kernel
set_option maxRecDepth 20000 in
theorem ggX9_isLaying_X4_total : GoodIn wsX9_isLaying wsX4_total := goodIn_r _ [57, 18, 69, 70, 71, 72] rfl (by decide +kernel)
set_option maxRecDepth 20000 in
theorem gX9_isLaying_X4_total : GoodIn wsX9_isLaying (wsV RX9 174 RX4 yX4_total wsX4_total) := goodIn_app (goodIn_r _ [54, 55, 56, 9] rfl (by decide +kernel)) ggX9_isLaying_X4_total
theorem dX9_isLaying_9 : decode cX9_isLaying 9 = .ok (.invokevirtual 174, 3) := by decide +kernel
theorem dX9_isLaying_12 : decode cX9_isLaying 12 = .ok (.if_icmp .ge 7, 3) := by decide +kernel
theorem dX9_isLaying_15 : decode cX9_isLaying 15 = .ok (.iconst 1, 1) := by decide +kernel
theorem dX9_isLaying_16 : decode cX9_isLaying 16 = .ok (.goto 4, 3) := by decide +kernel
set_option maxHeartbeats 4000000 in
set_option maxRecDepth 100000 in
theorem t_X9_isLaying (l : Launch) (D : va_G) (cy : Nat → ClassId) (a : Nat → Nat) (sz : Nat) (J : Nat → Int64) (I : Nat → Int32) (O : Nat → Option Nat) (R : Nat → Nat → Int32) (RO : Nat → Nat → Option Nat) (LL : va_W) (Y : va_W) (x0 : Int32) (hM : CI a Y I O RO) (hL : LOK cy (O 5) LL) : Met l yX9_isLaying wsX9_isLaying ({ frames := 5, cells := 3, slots := 17156, locals := 119 }) (va_Pc [.ref (a 0), .int x0] (PW D cy sz (CT cy a J I O R RO (LL ++ Y)))) (va_Qi (fun r (u : TS) => ∃ (w0 : Option Nat), ∃ (b : Bool), ∃ (LL9 : va_W), (r = bI b ∧ LOK cy w0 LL9) ∧ u = (J, I, (va_up O 5 w0), R, RO, LL9, Y)) (BW D (va_A (CT cy a J I O R RO (LL ++ Y)) sz) (CTu cy a)) (va_A (CT cy a J I O R RO (LL ++ Y)) sz)) 3 17156 (va_A (CT cy a J I O R RO (LL ++ Y)) sz) := by
  refine Met.ofW (cc := cX9_isLaying) (maxL := 2) (ret := (some .boolean)) (by decide) rfl ?_
  intro p e s m args below meth c s₁ B hml hv
  obtain ⟨rfl, rfl, hP, hK, hN, hD0⟩ := hv
  have hx := B.exec
  have hb := B.bytes
  have hr := B.returns
  have hts := atoms_spec (ws := wsX9_isLaying) B.pre
  have hown : s.vm.findClass RX9 = some m.cls := findClass_of_methodNamed B.named
  have hlocks := B.notSynchronized
  have hD := hD0.self (sz := s.heap.size)
  generalize hAe : va_A (CT cy a J I O R RO (LL ++ Y)) s.heap.size = A at hD ⊢
  have hA : ∀ q : Nat, s.heap.size ≤ q → A q := fun q h => by rw [← hAe]; exact Or.inr h
  have hS : va_S A s.heap s.heap [] := va_S.rf
  have hl := lv_entry ([.ref (a 0), .int x0]) (n := 2) (Nat.le_of_ble_eq_true rfl)
  rw [lg_entry_eq]
  generalize (lg_sl ([.ref (a 0), .int x0]) ++ List.replicate (2 - (lg_sl ([.ref (a 0), .int x0])).length) Slot.unset).toArray = ls at hl ⊢
  have hl : lv_has ls 2 [(0, .ref (a 0)), (1, .int x0)] := hl
  have hRO0 := hM.2.2.2.2.2.2.2.2.1
  have hRO1 := hM.2.2.2.2.2.2.2.2.2.1
  have hRO2 := hM.2.2.2.2.2.2.2.2.2.2.1
  have hRO3 := hM.2.2.2.2.2.2.2.2.2.2.2
  have hP : va_P D vwCl (CT cy a J I (va_up O 5 (O 5)) R RO (LL ++ Y)) s.heap := hP
  have hD : va_D A (CT cy a J I (va_up O 5 (O 5)) R RO (LL ++ Y)) := hD
  refine lv_iload_n hx hb dX9_isLaying_0 rfl (lv_at hl 1 rfl) ?_
  refine lv_if_lt (tgt := 19) hx hb dX9_isLaying_1 (by decide) (fun c_1 => ?_) (fun c_1 => ?_)
  · refine lv_iconst (v := 0) hx hb dX9_isLaying_19 (by decide) ?_
    refine W.widen (k := 3) (n := 17156) (Nat.le_of_ble_eq_true rfl) (Nat.le_of_ble_eq_true rfl) ?_
    exact wret_z hx hb hr hlocks rfl (J, I, (va_up O 5 (O 5)), R, RO, LL, Y) ⟨(O 5), false, LL, ⟨rfl, hL⟩, rfl⟩ hP hD hS dX9_isLaying_20
  · refine lv_iload_n hx hb dX9_isLaying_4 rfl (lv_at hl 1 rfl) ?_
    refine lv_aload_n hx hb dX9_isLaying_5 rfl (lv_at hl 0 rfl) ?_
    refine kM_r (As := []) (rest := [.int x0]) (q0 := 0) ⟨hx, hb, hml, hown, hts⟩ (t_X9_knownLayings l D cy a _ J I (va_up O 5 (O 5)) R RO LL Y   ⟨hM.1, hM.2.1, hM.2.2.1, hM.2.2.2.1, hM.2.2.2.2.1, hM.2.2.2.2.2.1, hM.2.2.2.2.2.2.1, hM.2.2.2.2.2.2.2.1, hRO0, hRO1, hRO2, hRO3⟩ hL) (cwV 0 hts gX9_isLaying_X9_knownLayings rfl rfl rfl (by decide +kernel) ⟨Nat.le_of_ble_eq_true rfl, Nat.le_of_ble_eq_true rfl⟩) hK hN hP hD hS hA rfl rfl rfl hl.1 rfl (Nat.le_of_ble_eq_true rfl) dX9_isLaying_6 ⟨Nat.le_of_ble_eq_true rfl, Nat.le_of_ble_eq_true rfl⟩ (fun u r_2 H locs hw hP hD hS => ?_)
    obtain ⟨g_3, g_4, g_5, g_6, g_7, g_8⟩ := u
    have hkn_9 : isB g_6 := hw.1
    have htb_10 : g_6 = 1 → tabF (bfx g_5) g_7 0 := hw.2
    have hP : va_P D vwCl (CT cy a J I (va_up O 5 (some r_2)) R RO ([(r_2, .inr (3, [.ref g_3, .ref g_4, .long g_5, .int g_6])), (g_3, .inl (cy 0, 16640, .inl g_7)), (g_4, .inl (cy 0, 512, .inl g_8))] ++ Y)) H := hP
    have hD : va_D A (CT cy a J I (va_up O 5 (some r_2)) R RO ([(r_2, .inr (3, [.ref g_3, .ref g_4, .long g_5, .int g_6])), (g_3, .inl (cy 0, 16640, .inl g_7)), (g_4, .inl (cy 0, 512, .inl g_8))] ++ Y)) := hD
    refine kR_i (As := []) (rest := [.int x0]) (q0 := 20) ⟨hx, hb, hml, hown, hts⟩ (t_X4_total l D cy a _ J I (va_up O 5 (some r_2)) R RO r_2 g_3 g_4 g_5 g_6 g_7 g_8 hkn_9 Y   ) (cwV 0 hts gX9_isLaying_X4_total rfl rfl rfl (by decide +kernel) ⟨Nat.le_of_ble_eq_true rfl, Nat.le_of_ble_eq_true rfl⟩) hK hN hP hD rfl rfl rfl hl.1 rfl (Nat.le_of_ble_eq_true rfl) dX9_isLaying_9 ⟨Nat.le_of_ble_eq_true rfl, Nat.le_of_ble_eq_true rfl⟩ ?_
    refine lv_icmp_ge (tgt := 19) hx hb dX9_isLaying_12 (by decide) (fun c_11 => ?_) (fun c_11 => ?_)
    · refine lv_iconst (v := 0) hx hb dX9_isLaying_19 (by decide) ?_
      exact wret_z hx hb hr hlocks rfl (J, I, (va_up O 5 (some r_2)), R, RO, [(r_2, .inr (3, [.ref g_3, .ref g_4, .long g_5, .int g_6])), (g_3, .inl (cy 0, 16640, .inl g_7)), (g_4, .inl (cy 0, 512, .inl g_8))], Y) ⟨(some r_2), false, ([(r_2, .inr (3, [.ref g_3, .ref g_4, .long g_5, .int g_6])), (g_3, .inl (cy 0, 16640, .inl g_7)), (g_4, .inl (cy 0, 512, .inl g_8))]), ⟨rfl, (Or.inr ⟨_, _, _, _, _, _, _, rfl, hkn_9, htb_10, rfl⟩)⟩, rfl⟩ hP hD hS dX9_isLaying_20
    · refine lv_iconst (v := 1) hx hb dX9_isLaying_15 (by decide) ?_
      refine lv_goto (tgt := 20) hx hb dX9_isLaying_16 (by decide) ?_
      exact wret_z hx hb hr hlocks rfl (J, I, (va_up O 5 (some r_2)), R, RO, [(r_2, .inr (3, [.ref g_3, .ref g_4, .long g_5, .int g_6])), (g_3, .inl (cy 0, 16640, .inl g_7)), (g_4, .inl (cy 0, 512, .inl g_8))], Y) ⟨(some r_2), true, ([(r_2, .inr (3, [.ref g_3, .ref g_4, .long g_5, .int g_6])), (g_3, .inl (cy 0, 16640, .inl g_7)), (g_4, .inl (cy 0, 512, .inl g_8))]), ⟨rfl, (Or.inr ⟨_, _, _, _, _, _, _, rfl, hkn_9, htb_10, rfl⟩)⟩, rfl⟩ hP hD hS dX9_isLaying_20
theorem dX9_count_0 : decode cX9_count 0 = .ok (.aload_n 0, 1) := by decide +kernel
set_option maxRecDepth 20000 in
theorem ggX9_count_X9_knownLayings : GoodIn wsX9_count wsX9_knownLayings := goodIn_r _ [5, 6, 7, 8, 9, 10, 11, 12, 13, 14, 15, 16, 17, 18, 19, 20, 21, 22, 4, 23, 24, 25, 26, 27, 28, 29, 30, 31, 32, 33, 34, 35, 36, 37, 38, 39, 40, 41, 42, 43, 44, 45, 46, 47, 48, 49, 50, 51, 52, 53, 58, 59, 60, 61, 62, 63, 64, 65, 66, 67, 68, 69, 70, 71, 72, 73, 74, 75, 76, 77, 78, 79] rfl (by decide +kernel)
set_option maxRecDepth 20000 in
theorem gX9_count_X9_knownLayings : GoodIn wsX9_count (wsV RX9 170 RX9 yX9_knownLayings wsX9_knownLayings) := goodIn_app (goodIn_r _ [1, 2, 3, 4] rfl (by decide +kernel)) ggX9_count_X9_knownLayings
theorem dX9_count_1 : decode cX9_count 1 = .ok (.invokevirtual 170, 3) := by decide +kernel
set_option maxRecDepth 20000 in
theorem ggX9_count_X4_total : GoodIn wsX9_count wsX4_total := goodIn_r _ [57, 18, 69, 70, 71, 72] rfl (by decide +kernel)
set_option maxRecDepth 20000 in
theorem gX9_count_X4_total : GoodIn wsX9_count (wsV RX9 174 RX4 yX4_total wsX4_total) := goodIn_app (goodIn_r _ [54, 55, 56, 9] rfl (by decide +kernel)) ggX9_count_X4_total
theorem dX9_count_4 : decode cX9_count 4 = .ok (.invokevirtual 174, 3) := by decide +kernel
theorem dX9_count_7 : decode cX9_count 7 = .ok (.ireturn, 1) := by decide +kernel
set_option maxHeartbeats 4000000 in
set_option maxRecDepth 100000 in
theorem t_X9_count (l : Launch) (D : va_G) (cy : Nat → ClassId) (a : Nat → Nat) (sz : Nat) (J : Nat → Int64) (I : Nat → Int32) (O : Nat → Option Nat) (R : Nat → Nat → Int32) (RO : Nat → Nat → Option Nat) (LL : va_W) (Y : va_W)  (hM : CI a Y I O RO) (hL : LOK cy (O 5) LL) : Met l yX9_count wsX9_count ({ frames := 5, cells := 3, slots := 17156, locals := 119 }) (va_Pc [.ref (a 0)] (PW D cy sz (CT cy a J I O R RO (LL ++ Y)))) (va_Qi (fun r (u : TS) => ∃ (w0 : Option Nat), ∃ (LL9 : va_W), (LOK cy w0 LL9) ∧ u = (J, I, (va_up O 5 w0), R, RO, LL9, Y)) (BW D (va_A (CT cy a J I O R RO (LL ++ Y)) sz) (CTu cy a)) (va_A (CT cy a J I O R RO (LL ++ Y)) sz)) 3 17156 (va_A (CT cy a J I O R RO (LL ++ Y)) sz) := by
  refine Met.ofW (cc := cX9_count) (maxL := 1) (ret := (some .int)) (by decide) rfl ?_
  intro p e s m args below meth c s₁ B hml hv
  obtain ⟨rfl, rfl, hP, hK, hN, hD0⟩ := hv
  have hx := B.exec
  have hb := B.bytes
  have hr := B.returns
  have hts := atoms_spec (ws := wsX9_count) B.pre
  have hown : s.vm.findClass RX9 = some m.cls := findClass_of_methodNamed B.named
  have hlocks := B.notSynchronized
  have hD := hD0.self (sz := s.heap.size)
  generalize hAe : va_A (CT cy a J I O R RO (LL ++ Y)) s.heap.size = A at hD ⊢
  have hA : ∀ q : Nat, s.heap.size ≤ q → A q := fun q h => by rw [← hAe]; exact Or.inr h
  have hS : va_S A s.heap s.heap [] := va_S.rf
  have hl := lv_entry ([.ref (a 0)]) (n := 1) (Nat.le_of_ble_eq_true rfl)
  rw [lg_entry_eq]
  generalize (lg_sl ([.ref (a 0)]) ++ List.replicate (1 - (lg_sl ([.ref (a 0)])).length) Slot.unset).toArray = ls at hl ⊢
  have hl : lv_has ls 1 [(0, .ref (a 0))] := hl
  have hRO0 := hM.2.2.2.2.2.2.2.2.1
  have hRO1 := hM.2.2.2.2.2.2.2.2.2.1
  have hRO2 := hM.2.2.2.2.2.2.2.2.2.2.1
  have hRO3 := hM.2.2.2.2.2.2.2.2.2.2.2
  have hP : va_P D vwCl (CT cy a J I (va_up O 5 (O 5)) R RO (LL ++ Y)) s.heap := hP
  have hD : va_D A (CT cy a J I (va_up O 5 (O 5)) R RO (LL ++ Y)) := hD
  refine lv_aload_n hx hb dX9_count_0 rfl (lv_at hl 0 rfl) ?_
  refine kM_r (As := []) (rest := []) (q0 := 0) ⟨hx, hb, hml, hown, hts⟩ (t_X9_knownLayings l D cy a _ J I (va_up O 5 (O 5)) R RO LL Y   ⟨hM.1, hM.2.1, hM.2.2.1, hM.2.2.2.1, hM.2.2.2.2.1, hM.2.2.2.2.2.1, hM.2.2.2.2.2.2.1, hM.2.2.2.2.2.2.2.1, hRO0, hRO1, hRO2, hRO3⟩ hL) (cwV 0 hts gX9_count_X9_knownLayings rfl rfl rfl (by decide +kernel) ⟨Nat.le_of_ble_eq_true rfl, Nat.le_of_ble_eq_true rfl⟩) hK hN hP hD hS hA rfl rfl rfl hl.1 rfl (Nat.le_of_ble_eq_true rfl) dX9_count_1 ⟨Nat.le_of_ble_eq_true rfl, Nat.le_of_ble_eq_true rfl⟩ (fun u r_1 H locs hw hP hD hS => ?_)
  obtain ⟨g_2, g_3, g_4, g_5, g_6, g_7⟩ := u
  have hkn_8 : isB g_5 := hw.1
  have htb_9 : g_5 = 1 → tabF (bfx g_4) g_6 0 := hw.2
  have hP : va_P D vwCl (CT cy a J I (va_up O 5 (some r_1)) R RO ([(r_1, .inr (3, [.ref g_2, .ref g_3, .long g_4, .int g_5])), (g_2, .inl (cy 0, 16640, .inl g_6)), (g_3, .inl (cy 0, 512, .inl g_7))] ++ Y)) H := hP
  have hD : va_D A (CT cy a J I (va_up O 5 (some r_1)) R RO ([(r_1, .inr (3, [.ref g_2, .ref g_3, .long g_4, .int g_5])), (g_2, .inl (cy 0, 16640, .inl g_6)), (g_3, .inl (cy 0, 512, .inl g_7))] ++ Y)) := hD
  refine kR_i (As := []) (rest := []) (q0 := 20) ⟨hx, hb, hml, hown, hts⟩ (t_X4_total l D cy a _ J I (va_up O 5 (some r_1)) R RO r_1 g_2 g_3 g_4 g_5 g_6 g_7 hkn_8 Y   ) (cwV 0 hts gX9_count_X4_total rfl rfl rfl (by decide +kernel) ⟨Nat.le_of_ble_eq_true rfl, Nat.le_of_ble_eq_true rfl⟩) hK hN hP hD rfl rfl rfl hl.1 rfl (Nat.le_of_ble_eq_true rfl) dX9_count_4 ⟨Nat.le_of_ble_eq_true rfl, Nat.le_of_ble_eq_true rfl⟩ ?_
  exact wret_i hx hb hr hlocks (J, I, (va_up O 5 (some r_1)), R, RO, [(r_1, .inr (3, [.ref g_2, .ref g_3, .long g_4, .int g_5])), (g_2, .inl (cy 0, 16640, .inl g_6)), (g_3, .inl (cy 0, 512, .inl g_7))], Y) ⟨(some r_1), ([(r_1, .inr (3, [.ref g_2, .ref g_3, .long g_4, .int g_5])), (g_2, .inl (cy 0, 16640, .inl g_6)), (g_3, .inl (cy 0, 512, .inl g_7))]), (Or.inr ⟨_, _, _, _, _, _, _, rfl, hkn_8, htb_9, rfl⟩), rfl⟩ hP hD hS dX9_count_7
theorem dX9_with_0 : decode cX9_with 0 = .ok (.iload_n 1, 1) := by decide +kernel
set_option maxRecDepth 20000 in
theorem ggX9_with_X1_isField : GoodIn wsX9_with wsX1_isField := goodIn_r _ [6] rfl (by decide +kernel)
set_option maxRecDepth 20000 in
theorem gX9_with_X1_isField : GoodIn wsX9_with (va_wsS RX9 60 yX1_isField wsX1_isField) := goodIn_app (goodIn_r _ [3, 4, 5] rfl (by decide +kernel)) ggX9_with_X1_isField
theorem dX9_with_1 : decode cX9_with 1 = .ok (.invokestatic 60, 3) := by decide +kernel
theorem dX9_with_4 : decode cX9_with 4 = .ok (.ifCond .ne 10, 3) := by decide +kernel
theorem dX9_with_14 : decode cX9_with 14 = .ok (.aload_n 0, 1) := by decide +kernel
theorem dX9_with_15 : decode cX9_with 15 = .ok (.iload_n 1, 1) := by decide +kernel
theorem dX9_with_16 : decode cX9_with 16 = .ok (.iload_n 2, 1) := by decide +kernel
set_option maxRecDepth 20000 in
theorem ggX9_with_X9_isPlace : GoodIn wsX9_with wsX9_isPlace := goodIn_r _ [16, 17, 18, 19, 20, 5, 21, 91, 92, 93, 94, 95, 96, 97, 98, 99, 100, 101] rfl (by decide +kernel)
set_option maxRecDepth 20000 in
theorem gX9_with_X9_isPlace : GoodIn wsX9_with (wsV RX9 95 RX9 yX9_isPlace wsX9_isPlace) := goodIn_app (goodIn_r _ [13, 14, 15, 10] rfl (by decide +kernel)) ggX9_with_X9_isPlace
theorem dX9_with_17 : decode cX9_with 17 = .ok (.invokevirtual 95, 3) := by decide +kernel
theorem dX9_with_20 : decode cX9_with 20 = .ok (.ifCond .ne 10, 3) := by decide +kernel
theorem dX9_with_30 : decode cX9_with 30 = .ok (.aload_n 0, 1) := by decide +kernel
theorem dX9_with_31 : decode cX9_with 31 = .ok (.iload_n 1, 1) := by decide +kernel
theorem dX9_with_32 : decode cX9_with 32 = .ok (.iload_n 2, 1) := by decide +kernel
set_option maxRecDepth 20000 in
theorem ggX9_with_X9_isGluedPlace : GoodIn wsX9_with wsX9_isGluedPlace := goodIn_r _ [25, 26, 27, 28, 10, 29, 30, 31, 32, 33, 34, 35, 36, 37, 38, 39, 40, 41, 42, 43, 5, 44, 91, 92, 93, 94, 95, 96, 97, 98, 99, 100, 101, 102, 103, 104, 105, 106, 107, 108] rfl (by decide +kernel)
set_option maxRecDepth 20000 in
theorem gX9_with_X9_isGluedPlace : GoodIn wsX9_with (wsV RX9 179 RX9 yX9_isGluedPlace wsX9_isGluedPlace) := goodIn_app (goodIn_r _ [22, 23, 24, 10] rfl (by decide +kernel)) ggX9_with_X9_isGluedPlace
theorem dX9_with_33 : decode cX9_with 33 = .ok (.invokevirtual 179, 3) := by decide +kernel
theorem dX9_with_36 : decode cX9_with 36 = .ok (.ifCond .eq 11, 3) := by decide +kernel
theorem dX9_with_47 : decode cX9_with 47 = .ok (.iload_n 1, 1) := by decide +kernel
theorem dX9_with_48 : decode cX9_with 48 = .ok (.iload_n 2, 1) := by decide +kernel
set_option maxRecDepth 20000 in
theorem ggX9_with_X1_place : GoodIn wsX9_with wsX1_place := goodIn_r _ [21] rfl (by decide +kernel)
set_option maxRecDepth 20000 in
theorem gX9_with_X1_place : GoodIn wsX9_with (va_wsS RX9 182 yX1_place wsX1_place) := goodIn_app (goodIn_r _ [19, 20, 5] rfl (by decide +kernel)) ggX9_with_X1_place
theorem dX9_with_49 : decode cX9_with 49 = .ok (.invokestatic 182, 3) := by decide +kernel
theorem dX9_with_52 : decode cX9_with 52 = .ok (.lstore_n 3, 1) := by decide +kernel
theorem dX9_with_53 : decode cX9_with 53 = .ok (.lload_n 3, 1) := by decide +kernel
theorem dX9_with_54 : decode cX9_with 54 = .ok (.aload_n 0, 1) := by decide +kernel
set_option maxRecDepth 20000 in
theorem ggX9_with_X9_gluedFields : GoodIn wsX9_with wsX9_gluedFields := goodIn_r _ [64, 30, 65, 33, 34, 35, 36, 37, 38, 39, 40, 10, 41, 91, 92, 93, 94, 95, 96, 97, 98, 99, 100, 101, 102, 103, 104, 105, 106, 107, 108] rfl (by decide +kernel)
set_option maxRecDepth 20000 in
theorem gX9_with_X9_gluedFields : GoodIn wsX9_with (wsV RX9 119 RX9 yX9_gluedFields wsX9_gluedFields) := goodIn_app (goodIn_r _ [61, 62, 63, 10] rfl (by decide +kernel)) ggX9_with_X9_gluedFields
theorem dX9_with_55 : decode cX9_with 55 = .ok (.invokevirtual 119, 3) := by decide +kernel
theorem dX9_with_58 : decode cX9_with 58 = .ok (.land, 1) := by decide +kernel
theorem dX9_with_59 : decode cX9_with 59 = .ok (.lconst 0, 1) := by decide +kernel
theorem dX9_with_60 : decode cX9_with 60 = .ok (.lcmp, 1) := by decide +kernel
theorem dX9_with_61 : decode cX9_with 61 = .ok (.ifCond .eq 5, 3) := by decide +kernel
theorem dX9_with_66 : decode cX9_with 66 = .ok (.aload_n 0, 1) := by decide +kernel
set_option maxRecDepth 20000 in
theorem ggX9_with_X9_knownLayings : GoodIn wsX9_with wsX9_knownLayings := goodIn_r _ [48, 49, 50, 51, 52, 17, 18, 53, 54, 55, 56, 57, 58, 59, 60, 61, 62, 63, 10, 64, 30, 65, 33, 34, 35, 36, 37, 38, 39, 40, 41, 66, 67, 68, 69, 70, 71, 72, 73, 74, 75, 76, 77, 78, 43, 5, 44, 79, 80, 81, 91, 92, 93, 94, 95, 96, 97, 98, 99, 100, 101, 109, 110, 111, 112, 102, 103, 104, 105, 106, 107, 108] rfl (by decide +kernel)
set_option maxRecDepth 20000 in
theorem gX9_with_X9_knownLayings : GoodIn wsX9_with (wsV RX9 170 RX9 yX9_knownLayings wsX9_knownLayings) := goodIn_app (goodIn_r _ [45, 46, 47, 10] rfl (by decide +kernel)) ggX9_with_X9_knownLayings
theorem dX9_with_67 : decode cX9_with 67 = .ok (.invokevirtual 170, 3) := by decide +kernel
theorem dX9_with_70 : decode cX9_with 70 = .ok (.lload_n 3, 1) := by decide +kernel
set_option maxRecDepth 20000 in
theorem ggX9_with_X4_totalWithout : GoodIn wsX9_with wsX4_totalWithout := goodIn_r _ [89, 60, 71, 90, 72, 73, 52, 74, 75, 76, 77, 78, 43, 5, 44, 79, 80, 81, 109, 110, 111, 112] rfl (by decide +kernel)
set_option maxRecDepth 20000 in
theorem gX9_with_X4_totalWithout : GoodIn wsX9_with (wsV RX9 186 RX4 yX4_totalWithout wsX4_totalWithout) := goodIn_app (goodIn_r _ [86, 87, 88, 52] rfl (by decide +kernel)) ggX9_with_X4_totalWithout
theorem dX9_with_71 : decode cX9_with 71 = .ok (.invokevirtual 186, 3) := by decide +kernel
theorem dX9_with_74 : decode cX9_with 74 = .ok (.ireturn, 1) := by decide +kernel
theorem dX9_with_64 : decode cX9_with 64 = .ok (.iconst 0, 1) := by decide +kernel
theorem dX9_with_65 : decode cX9_with 65 = .ok (.ireturn, 1) := by decide +kernel
theorem dX9_with_39 : decode cX9_with 39 = .ok (.aload_n 0, 1) := by decide +kernel
theorem dX9_with_40 : decode cX9_with 40 = .ok (.invokevirtual 170, 3) := by decide +kernel
set_option maxRecDepth 20000 in
theorem ggX9_with_X4_total : GoodIn wsX9_with wsX4_total := goodIn_r _ [85, 59, 109, 110, 111, 112] rfl (by decide +kernel)
set_option maxRecDepth 20000 in
theorem gX9_with_X4_total : GoodIn wsX9_with (wsV RX9 174 RX4 yX4_total wsX4_total) := goodIn_app (goodIn_r _ [82, 83, 84, 52] rfl (by decide +kernel)) ggX9_with_X4_total
theorem dX9_with_43 : decode cX9_with 43 = .ok (.invokevirtual 174, 3) := by decide +kernel
theorem dX9_with_46 : decode cX9_with 46 = .ok (.ireturn, 1) := by decide +kernel
theorem dX9_with_23 : decode cX9_with 23 = .ok (.aload_n 0, 1) := by decide +kernel
theorem dX9_with_24 : decode cX9_with 24 = .ok (.ldc 99, 2) := by decide +kernel
set_option maxRecDepth 20000 in
theorem ggX9_with_X9_finding : GoodIn wsX9_with wsX9_finding := goodIn_r _ [11, 12, 91, 92, 93, 94, 95, 96, 97, 98, 99, 100, 101] rfl (by decide +kernel)
set_option maxRecDepth 20000 in
theorem gX9_with_X9_finding : GoodIn wsX9_with (wsV RX9 44 RX9 yX9_finding wsX9_finding) := goodIn_app (goodIn_r _ [7, 8, 9, 10] rfl (by decide +kernel)) ggX9_with_X9_finding
theorem dX9_with_26 : decode cX9_with 26 = .ok (.invokevirtual 44, 3) := by decide +kernel
theorem dX9_with_29 : decode cX9_with 29 = .ok (.ireturn, 1) := by decide +kernel
theorem dX9_with_7 : decode cX9_with 7 = .ok (.aload_n 0, 1) := by decide +kernel
theorem dX9_with_8 : decode cX9_with 8 = .ok (.ldc 43, 2) := by decide +kernel
theorem dX9_with_10 : decode cX9_with 10 = .ok (.invokevirtual 44, 3) := by decide +kernel
theorem dX9_with_13 : decode cX9_with 13 = .ok (.ireturn, 1) := by decide +kernel
set_option maxHeartbeats 4000000 in
set_option maxRecDepth 100000 in
theorem t_X9_with (l : Launch) (D : va_G) (cy : Nat → ClassId) (a : Nat → Nat) (sz : Nat) (J : Nat → Int64) (I : Nat → Int32) (O : Nat → Option Nat) (R : Nat → Nat → Int32) (RO : Nat → Nat → Option Nat) (LL : va_W) (Y : va_W) (x0 : Int32) (x1 : Bool) (hM : CI a Y I O RO) (hL : LOK cy (O 5) LL) : Met l yX9_with wsX9_with ({ frames := 5, cells := 3, slots := 17156, locals := 119 }) (va_Pc [.ref (a 0), .int x0, .int (bI x1)] (PW D cy sz (CT cy a J I O R RO (LL ++ Y)))) (va_Qi (fun r (u : TS) => ∃ (w0 : Int32), ∃ (w1 : Option Nat), ∃ (LL9 : va_W), (LOK cy w1 LL9) ∧ u = (J, (va_up I 10 w0), (va_up O 5 w1), R, RO, LL9, Y)) (BW D (va_A (CT cy a J I O R RO (LL ++ Y)) sz) (CTu cy a)) (va_A (CT cy a J I O R RO (LL ++ Y)) sz)) 3 17156 (va_A (CT cy a J I O R RO (LL ++ Y)) sz) := by
  refine Met.ofW (cc := cX9_with) (maxL := 5) (ret := (some .int)) (by decide) rfl ?_
  intro p e s m args below meth c s₁ B hml hv
  obtain ⟨rfl, rfl, hP, hK, hN, hD0⟩ := hv
  have hx := B.exec
  have hb := B.bytes
  have hr := B.returns
  have hts := atoms_spec (ws := wsX9_with) B.pre
  have hown : s.vm.findClass RX9 = some m.cls := findClass_of_methodNamed B.named
  have hlocks := B.notSynchronized
  have hw0 := hts (.constant RX9 99 (-100003)) (by decide +kernel)
  have hw1 := hts (.constant RX9 43 (-100001)) (by decide +kernel)
  have hD := hD0.self (sz := s.heap.size)
  generalize hAe : va_A (CT cy a J I O R RO (LL ++ Y)) s.heap.size = A at hD ⊢
  have hA : ∀ q : Nat, s.heap.size ≤ q → A q := fun q h => by rw [← hAe]; exact Or.inr h
  have hS : va_S A s.heap s.heap [] := va_S.rf
  have hl := lv_entry ([.ref (a 0), .int x0, .int (bI x1)]) (n := 5) (Nat.le_of_ble_eq_true rfl)
  rw [lg_entry_eq]
  generalize (lg_sl ([.ref (a 0), .int x0, .int (bI x1)]) ++ List.replicate (5 - (lg_sl ([.ref (a 0), .int x0, .int (bI x1)])).length) Slot.unset).toArray = ls at hl ⊢
  have hl : lv_has ls 5 [(0, .ref (a 0)), (1, .int x0), (2, .int (bI x1))] := hl
  have hRO0 := hM.2.2.2.2.2.2.2.2.1
  have hRO1 := hM.2.2.2.2.2.2.2.2.2.1
  have hRO2 := hM.2.2.2.2.2.2.2.2.2.2.1
  have hRO3 := hM.2.2.2.2.2.2.2.2.2.2.2
  have hP : va_P D vwCl (CT cy a J (va_up I 10 (I 10)) (va_up O 5 (O 5)) R RO (LL ++ Y)) s.heap := hP
  have hD : va_D A (CT cy a J (va_up I 10 (I 10)) (va_up O 5 (O 5)) R RO (LL ++ Y)) := hD
  refine lv_iload_n hx hb dX9_with_0 rfl (lv_at hl 1 rfl) ?_
  refine kS_i (As := [.int x0]) (rest := []) ⟨hx, hb, hml, hown, hts⟩ (c_X1_isField l x0) (va_cwS 1 hts gX9_with_X1_isField rfl rfl rfl (by decide +kernel) ⟨Nat.le_of_ble_eq_true rfl, Nat.le_of_ble_eq_true rfl⟩) rfl hl.1 rfl (Nat.le_of_ble_eq_true rfl) dX9_with_1 ⟨Nat.le_of_ble_eq_true rfl, Nat.le_of_ble_eq_true rfl⟩ ?_
  refine lv_if_ne (tgt := 14) hx hb dX9_with_4 (by decide) (fun c_1 => ?_) (fun c_1 => ?_)
  · replace c_1 := bI_t c_1
    refine lv_aload_n hx hb dX9_with_14 rfl (lv_at hl 0 rfl) ?_
    refine lv_iload_n hx hb dX9_with_15 rfl (lv_at hl 1 rfl) ?_
    refine lv_iload_n hx hb dX9_with_16 rfl (lv_at hl 2 rfl) ?_
    refine kRa_i (As := [.int x0, .int (bI x1)]) (rest := []) (q0 := 0) ⟨hx, hb, hml, hown, hts⟩ (t_X9_isPlace l D cy a _ J (va_up I 10 (I 10)) (va_up O 5 (O 5)) R RO LL Y x0 x1  ) (cwV 2 hts gX9_with_X9_isPlace rfl rfl rfl (by decide +kernel) ⟨Nat.le_of_ble_eq_true rfl, Nat.le_of_ble_eq_true rfl⟩) hK hN hP hD rfl rfl rfl hl.1 rfl (Nat.le_of_ble_eq_true rfl) dX9_with_17 ⟨Nat.le_of_ble_eq_true rfl, Nat.le_of_ble_eq_true rfl⟩ (fun r_2 hr_3 => ?_)
    obtain ⟨zb_4, rfl⟩ := hr_3
    refine lv_if_ne (tgt := 30) hx hb dX9_with_20 (by decide) (fun c_5 => ?_) (fun c_5 => ?_)
    · replace c_5 := bI_t c_5
      refine lv_aload_n hx hb dX9_with_30 rfl (lv_at hl 0 rfl) ?_
      refine lv_iload_n hx hb dX9_with_31 rfl (lv_at hl 1 rfl) ?_
      refine lv_iload_n hx hb dX9_with_32 rfl (lv_at hl 2 rfl) ?_
      refine kRa_i (As := [.int x0, .int (bI x1)]) (rest := []) (q0 := 0) ⟨hx, hb, hml, hown, hts⟩ (t_X9_isGluedPlace l D cy a _ J (va_up I 10 (I 10)) (va_up O 5 (O 5)) R RO LL Y x0 x1  ⟨hM.1, hM.2.1, hM.2.2.1, hM.2.2.2.1, hM.2.2.2.2.1, hM.2.2.2.2.2.1, hM.2.2.2.2.2.2.1, hM.2.2.2.2.2.2.2.1, hRO0, hRO1, hRO2, hRO3⟩) (cwV 2 hts gX9_with_X9_isGluedPlace rfl rfl rfl (by decide +kernel) ⟨Nat.le_of_ble_eq_true rfl, Nat.le_of_ble_eq_true rfl⟩) hK hN hP hD rfl rfl rfl hl.1 rfl (Nat.le_of_ble_eq_true rfl) dX9_with_33 ⟨Nat.le_of_ble_eq_true rfl, Nat.le_of_ble_eq_true rfl⟩ (fun r_6 hr_7 => ?_)
      obtain ⟨zb_8, rfl⟩ := hr_7
      refine lv_if_eq (tgt := 47) hx hb dX9_with_36 (by decide) (fun c_9 => ?_) (fun c_9 => ?_)
      · replace c_9 := bI_f c_9
        refine lv_iload_n hx hb dX9_with_47 rfl (lv_at hl 1 rfl) ?_
        refine lv_iload_n hx hb dX9_with_48 rfl (lv_at hl 2 rfl) ?_
        refine kS_l (As := [.int x0, .int (bI x1)]) (rest := []) ⟨hx, hb, hml, hown, hts⟩ (c_X1_place l x0 x1) (va_cwS 2 hts gX9_with_X1_place rfl rfl rfl (by decide +kernel) ⟨Nat.le_of_ble_eq_true rfl, Nat.le_of_ble_eq_true rfl⟩) rfl hl.1 rfl (Nat.le_of_ble_eq_true rfl) dX9_with_49 ⟨Nat.le_of_ble_eq_true rfl, Nat.le_of_ble_eq_true rfl⟩ ?_
        refine lv_lstore_n (lv' := [(3, .long (g_place x0 x1)), (0, .ref (a 0)), (1, .int x0), (2, .int (bI x1))]) hx hb dX9_with_52 rfl hl (by decide) rfl (fun ls hl => ?_)
        refine lv_lload_n hx hb dX9_with_53 rfl (lv_at hl 0 rfl) ?_
        refine lv_aload_n hx hb dX9_with_54 rfl (lv_at hl 1 rfl) ?_
        refine kRa_l (As := []) (rest := [.long (g_place x0 x1)]) (q0 := 0) ⟨hx, hb, hml, hown, hts⟩ (t_X9_gluedFields l D cy a _ J (va_up I 10 (I 10)) (va_up O 5 (O 5)) R RO LL Y   ⟨hM.1, hM.2.1, hM.2.2.1, hM.2.2.2.1, hM.2.2.2.2.1, hM.2.2.2.2.2.1, hM.2.2.2.2.2.2.1, hM.2.2.2.2.2.2.2.1, hRO0, hRO1, hRO2, hRO3⟩) (cwV 0 hts gX9_with_X9_gluedFields rfl rfl rfl (by decide +kernel) ⟨Nat.le_of_ble_eq_true rfl, Nat.le_of_ble_eq_true rfl⟩) hK hN hP hD rfl rfl rfl hl.1 rfl (Nat.le_of_ble_eq_true rfl) dX9_with_55 ⟨Nat.le_of_ble_eq_true rfl, Nat.le_of_ble_eq_true rfl⟩ (fun r_10 hr_11 => ?_)
        refine lv_land hx hb dX9_with_58 ?_
        refine lv_lconst (v := 0) hx hb dX9_with_59 (by decide) ?_
        refine W.lcmp hx hb dX9_with_60 ?_
        refine lv_if_eq (tgt := 66) hx hb dX9_with_61 (by decide) (fun c_12 => ?_) (fun c_12 => ?_)
        · replace c_12 := (lg_cmp_eq _ _).mp c_12
          refine lv_aload_n hx hb dX9_with_66 rfl (lv_at hl 1 rfl) ?_
          refine kM_r (As := []) (rest := []) (q0 := 0) ⟨hx, hb, hml, hown, hts⟩ (t_X9_knownLayings l D cy a _ J (va_up I 10 (I 10)) (va_up O 5 (O 5)) R RO LL Y   ⟨hM.1, hM.2.1, hM.2.2.1, hM.2.2.2.1, hM.2.2.2.2.1, hM.2.2.2.2.2.1, hM.2.2.2.2.2.2.1, hM.2.2.2.2.2.2.2.1, hRO0, hRO1, hRO2, hRO3⟩ hL) (cwV 0 hts gX9_with_X9_knownLayings rfl rfl rfl (by decide +kernel) ⟨Nat.le_of_ble_eq_true rfl, Nat.le_of_ble_eq_true rfl⟩) hK hN hP hD hS hA rfl rfl rfl hl.1 rfl (Nat.le_of_ble_eq_true rfl) dX9_with_67 ⟨Nat.le_of_ble_eq_true rfl, Nat.le_of_ble_eq_true rfl⟩ (fun u r_13 H locs hw hP hD hS => ?_)
          obtain ⟨g_14, g_15, g_16, g_17, g_18, g_19⟩ := u
          have hkn_20 : isB g_17 := hw.1
          have htb_21 : g_17 = 1 → tabF (bfx g_16) g_18 0 := hw.2
          have hP : va_P D vwCl (CT cy a J (va_up I 10 (I 10)) (va_up O 5 (some r_13)) R RO ([(r_13, .inr (3, [.ref g_14, .ref g_15, .long g_16, .int g_17])), (g_14, .inl (cy 0, 16640, .inl g_18)), (g_15, .inl (cy 0, 512, .inl g_19))] ++ Y)) H := hP
          have hD : va_D A (CT cy a J (va_up I 10 (I 10)) (va_up O 5 (some r_13)) R RO ([(r_13, .inr (3, [.ref g_14, .ref g_15, .long g_16, .int g_17])), (g_14, .inl (cy 0, 16640, .inl g_18)), (g_15, .inl (cy 0, 512, .inl g_19))] ++ Y)) := hD
          refine lv_lload_n hx hb dX9_with_70 rfl (lv_at hl 0 rfl) ?_
          refine kM_i (As := [.long (g_place x0 x1)]) (rest := []) (q0 := 20) ⟨hx, hb, hml, hown, hts⟩ (t_X4_totalWithout l D cy a _ J (va_up I 10 (I 10)) (va_up O 5 (some r_13)) R RO r_13 g_14 g_15 g_16 g_17 g_18 g_19 hkn_20 Y (g_place x0 x1)   ) (cwV 1 hts gX9_with_X4_totalWithout rfl rfl rfl (by decide +kernel) ⟨Nat.le_of_ble_eq_true rfl, Nat.le_of_ble_eq_true rfl⟩) hK hN hP hD hS hA rfl rfl rfl hl.1 rfl (Nat.le_of_ble_eq_true rfl) dX9_with_71 ⟨Nat.le_of_ble_eq_true rfl, Nat.le_of_ble_eq_true rfl⟩ (fun r_22 u H locs hw hP hD hS => ?_)
          obtain ⟨g_23, rfl, rfl⟩ := hw
          have hP : va_P D vwCl (CT cy a J (va_up I 10 (I 10)) (va_up O 5 (some r_13)) R RO ([(r_13, .inr (3, [.ref g_14, .ref g_15, .long g_16, .int g_17])), (g_14, .inl (cy 0, 16640, .inl g_18)), (g_15, .inl (cy 0, 512, .inl g_23))] ++ Y)) H := hP
          have hD : va_D A (CT cy a J (va_up I 10 (I 10)) (va_up O 5 (some r_13)) R RO ([(r_13, .inr (3, [.ref g_14, .ref g_15, .long g_16, .int g_17])), (g_14, .inl (cy 0, 16640, .inl g_18)), (g_15, .inl (cy 0, 512, .inl g_23))] ++ Y)) := hD
          exact wret_i hx hb hr hlocks (J, (va_up I 10 (I 10)), (va_up O 5 (some r_13)), R, RO, [(r_13, .inr (3, [.ref g_14, .ref g_15, .long g_16, .int g_17])), (g_14, .inl (cy 0, 16640, .inl g_18)), (g_15, .inl (cy 0, 512, .inl g_23))], Y) ⟨(I 10), (some r_13), ([(r_13, .inr (3, [.ref g_14, .ref g_15, .long g_16, .int g_17])), (g_14, .inl (cy 0, 16640, .inl g_18)), (g_15, .inl (cy 0, 512, .inl g_23))]), (Or.inr ⟨_, _, _, _, _, _, _, rfl, hkn_20, htb_21, rfl⟩), rfl⟩ hP hD hS dX9_with_74
        · replace c_12 := fun z => c_12 ((lg_cmp_eq _ _).mpr z)
          refine lv_iconst (v := 0) hx hb dX9_with_64 (by decide) ?_
          refine W.widen (k := 3) (n := 17156) (Nat.le_of_ble_eq_true rfl) (Nat.le_of_ble_eq_true rfl) ?_
          exact wret_i hx hb hr hlocks (J, (va_up I 10 (I 10)), (va_up O 5 (O 5)), R, RO, LL, Y) ⟨(I 10), (O 5), LL, hL, rfl⟩ hP hD hS dX9_with_65
      · replace c_9 := bI_t c_9
        refine lv_aload_n hx hb dX9_with_39 rfl (lv_at hl 0 rfl) ?_
        refine kM_r (As := []) (rest := []) (q0 := 0) ⟨hx, hb, hml, hown, hts⟩ (t_X9_knownLayings l D cy a _ J (va_up I 10 (I 10)) (va_up O 5 (O 5)) R RO LL Y   ⟨hM.1, hM.2.1, hM.2.2.1, hM.2.2.2.1, hM.2.2.2.2.1, hM.2.2.2.2.2.1, hM.2.2.2.2.2.2.1, hM.2.2.2.2.2.2.2.1, hRO0, hRO1, hRO2, hRO3⟩ hL) (cwV 0 hts gX9_with_X9_knownLayings rfl rfl rfl (by decide +kernel) ⟨Nat.le_of_ble_eq_true rfl, Nat.le_of_ble_eq_true rfl⟩) hK hN hP hD hS hA rfl rfl rfl hl.1 rfl (Nat.le_of_ble_eq_true rfl) dX9_with_40 ⟨Nat.le_of_ble_eq_true rfl, Nat.le_of_ble_eq_true rfl⟩ (fun u r_24 H locs hw hP hD hS => ?_)
        obtain ⟨g_25, g_26, g_27, g_28, g_29, g_30⟩ := u
        have hkn_31 : isB g_28 := hw.1
        have htb_32 : g_28 = 1 → tabF (bfx g_27) g_29 0 := hw.2
        have hP : va_P D vwCl (CT cy a J (va_up I 10 (I 10)) (va_up O 5 (some r_24)) R RO ([(r_24, .inr (3, [.ref g_25, .ref g_26, .long g_27, .int g_28])), (g_25, .inl (cy 0, 16640, .inl g_29)), (g_26, .inl (cy 0, 512, .inl g_30))] ++ Y)) H := hP
        have hD : va_D A (CT cy a J (va_up I 10 (I 10)) (va_up O 5 (some r_24)) R RO ([(r_24, .inr (3, [.ref g_25, .ref g_26, .long g_27, .int g_28])), (g_25, .inl (cy 0, 16640, .inl g_29)), (g_26, .inl (cy 0, 512, .inl g_30))] ++ Y)) := hD
        refine kR_i (As := []) (rest := []) (q0 := 20) ⟨hx, hb, hml, hown, hts⟩ (t_X4_total l D cy a _ J (va_up I 10 (I 10)) (va_up O 5 (some r_24)) R RO r_24 g_25 g_26 g_27 g_28 g_29 g_30 hkn_31 Y   ) (cwV 0 hts gX9_with_X4_total rfl rfl rfl (by decide +kernel) ⟨Nat.le_of_ble_eq_true rfl, Nat.le_of_ble_eq_true rfl⟩) hK hN hP hD rfl rfl rfl hl.1 rfl (Nat.le_of_ble_eq_true rfl) dX9_with_43 ⟨Nat.le_of_ble_eq_true rfl, Nat.le_of_ble_eq_true rfl⟩ ?_
        exact wret_i hx hb hr hlocks (J, (va_up I 10 (I 10)), (va_up O 5 (some r_24)), R, RO, [(r_24, .inr (3, [.ref g_25, .ref g_26, .long g_27, .int g_28])), (g_25, .inl (cy 0, 16640, .inl g_29)), (g_26, .inl (cy 0, 512, .inl g_30))], Y) ⟨(I 10), (some r_24), ([(r_24, .inr (3, [.ref g_25, .ref g_26, .long g_27, .int g_28])), (g_25, .inl (cy 0, 16640, .inl g_29)), (g_26, .inl (cy 0, 512, .inl g_30))]), (Or.inr ⟨_, _, _, _, _, _, _, rfl, hkn_31, htb_32, rfl⟩), rfl⟩ hP hD hS dX9_with_46
    · replace c_5 := bI_f c_5
      refine lv_aload_n hx hb dX9_with_23 rfl (lv_at hl 0 rfl) ?_
      refine lv_ldc (v := (-100003)) hx hb hown hw0 dX9_with_24 ?_
      refine kM_i (As := [.int (-100003)]) (rest := []) (q0 := 0) ⟨hx, hb, hml, hown, hts⟩ (t_X9_finding l D cy a _ J (va_up I 10 (I 10)) (va_up O 5 (O 5)) R RO LL Y ((-100003) : Int32)   ) (cwV 1 hts gX9_with_X9_finding rfl rfl rfl (by decide +kernel) ⟨Nat.le_of_ble_eq_true rfl, Nat.le_of_ble_eq_true rfl⟩) hK hN hP hD hS hA rfl rfl rfl hl.1 rfl (Nat.le_of_ble_eq_true rfl) dX9_with_26 ⟨Nat.le_of_ble_eq_true rfl, Nat.le_of_ble_eq_true rfl⟩ (fun r_33 u H locs hw hP hD hS => ?_)
      obtain ⟨w_34, rfl, rfl⟩ := hw
      have hP : va_P D vwCl (CT cy a J (va_up I 10 w_34) (va_up O 5 (O 5)) R RO (LL ++ Y)) H := hP
      have hD : va_D A (CT cy a J (va_up I 10 w_34) (va_up O 5 (O 5)) R RO (LL ++ Y)) := hD
      refine W.widen (k := 3) (n := 17156) (Nat.le_of_ble_eq_true rfl) (Nat.le_of_ble_eq_true rfl) ?_
      exact wret_i hx hb hr hlocks (J, (va_up I 10 w_34), (va_up O 5 (O 5)), R, RO, LL, Y) ⟨w_34, (O 5), LL, hL, rfl⟩ hP hD hS dX9_with_29
  · replace c_1 := bI_f c_1
    refine lv_aload_n hx hb dX9_with_7 rfl (lv_at hl 0 rfl) ?_
    refine lv_ldc (v := (-100001)) hx hb hown hw1 dX9_with_8 ?_
    refine kM_i (As := [.int (-100001)]) (rest := []) (q0 := 0) ⟨hx, hb, hml, hown, hts⟩ (t_X9_finding l D cy a _ J (va_up I 10 (I 10)) (va_up O 5 (O 5)) R RO LL Y ((-100001) : Int32)   ) (cwV 1 hts gX9_with_X9_finding rfl rfl rfl (by decide +kernel) ⟨Nat.le_of_ble_eq_true rfl, Nat.le_of_ble_eq_true rfl⟩) hK hN hP hD hS hA rfl rfl rfl hl.1 rfl (Nat.le_of_ble_eq_true rfl) dX9_with_10 ⟨Nat.le_of_ble_eq_true rfl, Nat.le_of_ble_eq_true rfl⟩ (fun r_35 u H locs hw hP hD hS => ?_)
    obtain ⟨w_36, rfl, rfl⟩ := hw
    have hP : va_P D vwCl (CT cy a J (va_up I 10 w_36) (va_up O 5 (O 5)) R RO (LL ++ Y)) H := hP
    have hD : va_D A (CT cy a J (va_up I 10 w_36) (va_up O 5 (O 5)) R RO (LL ++ Y)) := hD
    refine W.widen (k := 3) (n := 17156) (Nat.le_of_ble_eq_true rfl) (Nat.le_of_ble_eq_true rfl) ?_
    exact wret_i hx hb hr hlocks (J, (va_up I 10 w_36), (va_up O 5 (O 5)), R, RO, LL, Y) ⟨w_36, (O 5), LL, hL, rfl⟩ hP hD hS dX9_with_13
theorem dX9_lay_0 : decode cX9_lay 0 = .ok (.aload_n 0, 1) := by decide +kernel
theorem dX9_lay_1 : decode cX9_lay 1 = .ok (.iload_n 1, 1) := by decide +kernel
set_option maxRecDepth 20000 in
theorem ggX9_lay_X9_isLaying : GoodIn wsX9_lay wsX9_isLaying := goodIn_r _ [7, 8, 9, 10, 6, 11, 12, 13, 14, 15, 16, 17, 18, 19, 20, 21, 22, 23, 24, 25, 26, 27, 28, 29, 30, 31, 32, 33, 34, 35, 36, 37, 38, 39, 40, 41, 42, 43, 44, 45, 46, 47, 48, 49, 50, 51, 52, 53, 54, 55, 56, 57, 58, 59, 60, 61, 62, 63, 107, 108, 109, 110, 111, 112, 113, 114, 115, 116, 117, 118, 119, 120, 121, 122, 123, 124, 125, 126, 127, 128] rfl (by decide +kernel)
set_option maxRecDepth 20000 in
theorem gX9_lay_X9_isLaying : GoodIn wsX9_lay (wsV RX9 189 RX9 yX9_isLaying wsX9_isLaying) := goodIn_app (goodIn_r _ [3, 4, 5, 6] rfl (by decide +kernel)) ggX9_lay_X9_isLaying
theorem dX9_lay_2 : decode cX9_lay 2 = .ok (.invokevirtual 189, 3) := by decide +kernel
theorem dX9_lay_5 : decode cX9_lay 5 = .ok (.ifCond .ne 10, 3) := by decide +kernel
theorem dX9_lay_15 : decode cX9_lay 15 = .ok (.aload_n 0, 1) := by decide +kernel
theorem dX9_lay_16 : decode cX9_lay 16 = .ok (.aload_n 0, 1) := by decide +kernel
theorem dX9_lay_17 : decode cX9_lay 17 = .ok (.iload_n 1, 1) := by decide +kernel
set_option maxRecDepth 20000 in
theorem ggX9_lay_X9_layingOf : GoodIn wsX9_lay wsX9_layingOf := goodIn_r _ [72, 73, 74, 75, 8, 9, 10, 6, 11, 12, 13, 14, 15, 16, 17, 18, 19, 20, 21, 22, 23, 24, 25, 26, 27, 28, 29, 30, 31, 32, 33, 34, 35, 36, 37, 38, 39, 40, 41, 42, 43, 44, 45, 46, 47, 48, 49, 50, 51, 52, 53, 54, 55, 56, 57, 58, 59, 76, 77, 78, 79, 80, 81, 82, 83, 84, 85, 86, 87, 88, 89, 90, 91, 92, 93, 94, 95, 96, 97, 98, 99, 100, 101, 102, 103, 104, 105, 106, 129, 130, 131, 107, 108, 109, 110, 111, 112, 113, 114, 115, 116, 117, 118, 119, 120, 121, 122, 123, 124, 125, 126, 127, 128] rfl (by decide +kernel)
set_option maxRecDepth 20000 in
theorem gX9_lay_X9_layingOf : GoodIn wsX9_lay (wsV RX9 192 RX9 yX9_layingOf wsX9_layingOf) := goodIn_app (goodIn_r _ [69, 70, 71, 6] rfl (by decide +kernel)) ggX9_lay_X9_layingOf
theorem dX9_lay_18 : decode cX9_lay 18 = .ok (.invokevirtual 192, 3) := by decide +kernel
theorem dX9_lay_21 : decode cX9_lay 21 = .ok (.putfield 133, 3) := by decide +kernel
theorem dX9_lay_24 : decode cX9_lay 24 = .ok (.iconst 1, 1) := by decide +kernel
theorem dX9_lay_25 : decode cX9_lay 25 = .ok (.ireturn, 1) := by decide +kernel
theorem dX9_lay_8 : decode cX9_lay 8 = .ok (.aload_n 0, 1) := by decide +kernel
theorem dX9_lay_9 : decode cX9_lay 9 = .ok (.ldc 43, 2) := by decide +kernel
set_option maxRecDepth 20000 in
theorem ggX9_lay_X9_finding : GoodIn wsX9_lay wsX9_finding := goodIn_r _ [67, 68, 107, 108, 109, 110, 111, 112, 113, 114, 115, 116, 117] rfl (by decide +kernel)
set_option maxRecDepth 20000 in
theorem gX9_lay_X9_finding : GoodIn wsX9_lay (wsV RX9 44 RX9 yX9_finding wsX9_finding) := goodIn_app (goodIn_r _ [64, 65, 66, 6] rfl (by decide +kernel)) ggX9_lay_X9_finding
theorem dX9_lay_11 : decode cX9_lay 11 = .ok (.invokevirtual 44, 3) := by decide +kernel
theorem dX9_lay_14 : decode cX9_lay 14 = .ok (.ireturn, 1) := by decide +kernel
set_option maxRecDepth 20000 in
theorem ihX9_lay_9 : ∀ w ∈ u_ws RX9 TX9 11, w ∈ wsX9_lay := fun _ h => List.mem_cons_of_mem _ (List.mem_append_left _ (List.mem_append_left _ (List.mem_append_left _ (List.mem_append_right _ h))))
set_option maxHeartbeats 4000000 in
set_option maxRecDepth 100000 in
theorem t_X9_lay (l : Launch) (D : va_G) (cy : Nat → ClassId) (a : Nat → Nat) (sz : Nat) (J : Nat → Int64) (I : Nat → Int32) (O : Nat → Option Nat) (R : Nat → Nat → Int32) (RO : Nat → Nat → Option Nat) (LL : va_W) (Y : va_W) (x0 : Int32) (hM : CI a Y I O RO) (hL : LOK cy (O 5) LL) : Met l yX9_lay wsX9_lay ({ frames := 6, cells := 7, slots := 34315, locals := 145 }) (va_Pc [.ref (a 0), .int x0] (PW D cy sz (CT cy a J I O R RO (LL ++ Y)))) (va_Qi (fun r (u : TS) => ∃ (w0 : Int32), ∃ (w1 : Option Nat), ∃ (w2 : Option Nat), ∃ (LL9 : va_W), ∃ (Y9 : va_W), ((layO Y9 w2) ∧ (∀ c, c ∈ Y → c ∈ Y9) ∧ LOK cy w1 LL9) ∧ u = (J, (va_up I 10 w0), (va_up (va_up O 5 w1) 8 w2), R, RO, LL9, Y9)) (BW D (va_A (CT cy a J I O R RO (LL ++ Y)) sz) (CTu cy a)) (va_A (CT cy a J I O R RO (LL ++ Y)) sz)) 7 34315 (va_A (CT cy a J I O R RO (LL ++ Y)) sz) := by
  refine Met.ofW (cc := cX9_lay) (maxL := 2) (ret := (some .int)) (by decide) rfl ?_
  intro p e s m args below meth c s₁ B hml hv
  obtain ⟨rfl, rfl, hP, hK, hN, hD0⟩ := hv
  have hx := B.exec
  have hb := B.bytes
  have hr := B.returns
  have hts := atoms_spec (ws := wsX9_lay) B.pre
  have hown : s.vm.findClass RX9 = some m.cls := findClass_of_methodNamed B.named
  have hlocks := B.notSynchronized
  have hw0 := hts (.fieldLink RX9 133 "ParquetLayer" "hand" "LParquetLayer$Laying;") (by decide +kernel)
  have hw1 := hts (.constant RX9 43 (-100001)) (by decide +kernel)
  have hi9 := ihX9_lay_9
  have hD := hD0.self (sz := s.heap.size)
  generalize hAe : va_A (CT cy a J I O R RO (LL ++ Y)) s.heap.size = A at hD ⊢
  have hA : ∀ q : Nat, s.heap.size ≤ q → A q := fun q h => by rw [← hAe]; exact Or.inr h
  have hS : va_S A s.heap s.heap [] := va_S.rf
  have hl := lv_entry ([.ref (a 0), .int x0]) (n := 2) (Nat.le_of_ble_eq_true rfl)
  rw [lg_entry_eq]
  generalize (lg_sl ([.ref (a 0), .int x0]) ++ List.replicate (2 - (lg_sl ([.ref (a 0), .int x0])).length) Slot.unset).toArray = ls at hl ⊢
  have hl : lv_has ls 2 [(0, .ref (a 0)), (1, .int x0)] := hl
  have hRO0 := hM.2.2.2.2.2.2.2.2.1
  have hRO1 := hM.2.2.2.2.2.2.2.2.2.1
  have hRO2 := hM.2.2.2.2.2.2.2.2.2.2.1
  have hRO3 := hM.2.2.2.2.2.2.2.2.2.2.2
  have hP : va_P D vwCl (CT cy a J (va_up I 10 (I 10)) (va_up (va_up O 5 (O 5)) 8 (O 8)) R RO (LL ++ Y)) s.heap := hP
  have hD : va_D A (CT cy a J (va_up I 10 (I 10)) (va_up (va_up O 5 (O 5)) 8 (O 8)) R RO (LL ++ Y)) := hD
  refine lv_aload_n hx hb dX9_lay_0 rfl (lv_at hl 0 rfl) ?_
  refine lv_iload_n hx hb dX9_lay_1 rfl (lv_at hl 1 rfl) ?_
  refine kM_i (As := [.int x0]) (rest := []) (q0 := 0) ⟨hx, hb, hml, hown, hts⟩ (t_X9_isLaying l D cy a _ J (va_up I 10 (I 10)) (va_up (va_up O 5 (O 5)) 8 (O 8)) R RO LL Y x0  ⟨hM.1, hM.2.1, hM.2.2.1, hM.2.2.2.1, hM.2.2.2.2.1, hM.2.2.2.2.2.1, hM.2.2.2.2.2.2.1, hM.2.2.2.2.2.2.2.1, hRO0, hRO1, hRO2, hRO3⟩ hL) (cwV 1 hts gX9_lay_X9_isLaying rfl rfl rfl (by decide +kernel) ⟨Nat.le_of_ble_eq_true rfl, Nat.le_of_ble_eq_true rfl⟩) hK hN hP hD hS hA rfl rfl rfl hl.1 rfl (Nat.le_of_ble_eq_true rfl) dX9_lay_2 ⟨Nat.le_of_ble_eq_true rfl, Nat.le_of_ble_eq_true rfl⟩ (fun r_1 u H locs hw hP hD hS => ?_)
  obtain ⟨w_2, zb_3, LL_4, ⟨rfl, hL_5⟩, rfl⟩ := hw
  have hP : va_P D vwCl (CT cy a J (va_up I 10 (I 10)) (va_up (va_up O 5 w_2) 8 (O 8)) R RO (LL_4 ++ Y)) H := hP
  have hD : va_D A (CT cy a J (va_up I 10 (I 10)) (va_up (va_up O 5 w_2) 8 (O 8)) R RO (LL_4 ++ Y)) := hD
  refine lv_if_ne (tgt := 15) hx hb dX9_lay_5 (by decide) (fun c_6 => ?_) (fun c_6 => ?_)
  · replace c_6 := bI_t c_6
    refine lv_aload_n hx hb dX9_lay_15 rfl (lv_at hl 0 rfl) ?_
    refine lv_aload_n hx hb dX9_lay_16 rfl (lv_at hl 0 rfl) ?_
    refine lv_iload_n hx hb dX9_lay_17 rfl (lv_at hl 1 rfl) ?_
    refine kM_r (As := [.int x0]) (rest := [.ref (a 0)]) (q0 := 0) ⟨hx, hb, hml, hown, hts⟩ (t_X9_layingOf l D cy a _ J (va_up I 10 (I 10)) (va_up (va_up O 5 w_2) 8 (O 8)) R RO LL_4 Y x0  ⟨hM.1, hM.2.1, hM.2.2.1, hM.2.2.2.1, hM.2.2.2.2.1, hM.2.2.2.2.2.1, hM.2.2.2.2.2.2.1, hM.2.2.2.2.2.2.2.1, hRO0, hRO1, hRO2, hRO3⟩ hL_5) (cwV 1 hts gX9_lay_X9_layingOf rfl rfl rfl (by decide +kernel) ⟨Nat.le_of_ble_eq_true rfl, Nat.le_of_ble_eq_true rfl⟩) hK hN hP hD hS hA rfl rfl rfl hl.1 rfl (Nat.le_of_ble_eq_true rfl) dX9_lay_18 ⟨Nat.le_of_ble_eq_true rfl, Nat.le_of_ble_eq_true rfl⟩ (fun u r_7 H locs hw hP hD hS => ?_)
    obtain ⟨g_8, g_9, g_10, g_11⟩ := u
    have hL_12 : LOK cy g_8 g_9 := hw
    have hs_13 : ∀ c, c ∈ Y → c ∈ (Y ++ [laC r_7 x0 g_10 g_11]) := fun c h => List.mem_append_left _ h
    have hi_14 : chO (Y ++ [laC r_7 x0 g_10 g_11]) (O 7) := chO_mono hs_13 hM.2.1
    have hi_15 : layO (Y ++ [laC r_7 x0 g_10 g_11]) (O 8) := layO_mono hs_13 hM.2.2.1
    have hi_16 : ∀ i, i < 20 → pasO (Y ++ [laC r_7 x0 g_10 g_11]) ((RO 2) i) := pas_mono hs_13 hM.2.2.2.1
    have hmono_17 : ∀ c, c ∈ Y → c ∈ (Y ++ [laC r_7 x0 g_10 g_11]) := fun c h => hs_13 c ((fun _ h => h) c h)
    have hP : va_P D vwCl (CT cy a J (va_up I 10 (I 10)) (va_up (va_up O 5 g_8) 8 (O 8)) R RO (g_9 ++ (Y ++ [laC r_7 x0 g_10 g_11]))) H := hP
    have hD : va_D A (CT cy a J (va_up I 10 (I 10)) (va_up (va_up O 5 g_8) 8 (O 8)) R RO (g_9 ++ (Y ++ [laC r_7 x0 g_10 g_11]))) := hD
    refine va_put (D := D) (ci := 8) (v := .ref r_7) (ty := .object "ParquetLayer$Laying") (C := RX9) (T := TX9) (N := 11) hx hb hts hi9 tyX9 tyX9_ok nmX9 hown hK hP hD hS 0 rfl rfl 8 (by decide) hw0 (fun _ h9 => h9) rfl (by decide +kernel) rfl rfl (Nat.le_of_ble_eq_true rfl) dX9_lay_21 (fun H locs hP hD hS => ?_)
    have hP : va_P D vwCl (CT cy a J (va_up I 10 (I 10)) (va_up (va_up O 5 g_8) 8 (some r_7)) R RO (g_9 ++ (Y ++ [laC r_7 x0 g_10 g_11]))) H := hP
    have hD : va_D A (CT cy a J (va_up I 10 (I 10)) (va_up (va_up O 5 g_8) 8 (some r_7)) R RO (g_9 ++ (Y ++ [laC r_7 x0 g_10 g_11]))) := hD
    have hi_18 : layO (Y ++ [laC r_7 x0 g_10 g_11]) (some r_7) := (Or.inr ⟨_, _, _, _, rfl, mem_last⟩)
    refine lv_iconst (v := 1) hx hb dX9_lay_24 (by decide) ?_
    exact wret_i hx hb hr hlocks (J, (va_up I 10 (I 10)), (va_up (va_up O 5 g_8) 8 (some r_7)), R, RO, g_9, Y ++ [laC r_7 x0 g_10 g_11]) ⟨(I 10), g_8, (some r_7), g_9, (Y ++ [laC r_7 x0 g_10 g_11]), ⟨hi_18, hmono_17, hL_12⟩, rfl⟩ hP hD hS dX9_lay_25
  · replace c_6 := bI_f c_6
    refine lv_aload_n hx hb dX9_lay_8 rfl (lv_at hl 0 rfl) ?_
    refine lv_ldc (v := (-100001)) hx hb hown hw1 dX9_lay_9 ?_
    refine kM_i (As := [.int (-100001)]) (rest := []) (q0 := 0) ⟨hx, hb, hml, hown, hts⟩ (t_X9_finding l D cy a _ J (va_up I 10 (I 10)) (va_up (va_up O 5 w_2) 8 (O 8)) R RO LL_4 Y ((-100001) : Int32)   ) (cwV 1 hts gX9_lay_X9_finding rfl rfl rfl (by decide +kernel) ⟨Nat.le_of_ble_eq_true rfl, Nat.le_of_ble_eq_true rfl⟩) hK hN hP hD hS hA rfl rfl rfl hl.1 rfl (Nat.le_of_ble_eq_true rfl) dX9_lay_11 ⟨Nat.le_of_ble_eq_true rfl, Nat.le_of_ble_eq_true rfl⟩ (fun r_19 u H locs hw hP hD hS => ?_)
    obtain ⟨w_20, rfl, rfl⟩ := hw
    have hP : va_P D vwCl (CT cy a J (va_up I 10 w_20) (va_up (va_up O 5 w_2) 8 (O 8)) R RO (LL_4 ++ Y)) H := hP
    have hD : va_D A (CT cy a J (va_up I 10 w_20) (va_up (va_up O 5 w_2) 8 (O 8)) R RO (LL_4 ++ Y)) := hD
    refine W.widen (k := 7) (n := 34315) (Nat.le_of_ble_eq_true rfl) (Nat.le_of_ble_eq_true rfl) ?_
    exact wret_i hx hb hr hlocks (J, (va_up I 10 w_20), (va_up (va_up O 5 w_2) 8 (O 8)), R, RO, LL_4, Y) ⟨w_20, w_2, (O 8), LL_4, Y, ⟨hM.2.2.1, (fun _ h => h), hL_5⟩, rfl⟩ hP hD hS dX9_lay_14
theorem dX9_rank_0 : decode cX9_rank 0 = .ok (.aload_n 0, 1) := by decide +kernel
theorem dX9_rank_1 : decode cX9_rank 1 = .ok (.getfield 133, 3) := by decide +kernel
theorem dX9_rank_4 : decode cX9_rank 4 = .ok (.ifnonnull 12, 3) := by decide +kernel
theorem dX9_rank_16 : decode cX9_rank 16 = .ok (.aload_n 0, 1) := by decide +kernel
theorem dX9_rank_17 : decode cX9_rank 17 = .ok (.getfield 133, 3) := by decide +kernel
theorem dX9_rank_20 : decode cX9_rank 20 = .ok (.getfield 196, 3) := by decide +kernel
theorem dX9_rank_23 : decode cX9_rank 23 = .ok (.ireturn, 1) := by decide +kernel
theorem dX9_rank_7 : decode cX9_rank 7 = .ok (.aload_n 0, 1) := by decide +kernel
theorem dX9_rank_8 : decode cX9_rank 8 = .ok (.ldc 137, 2) := by decide +kernel
set_option maxRecDepth 20000 in
theorem ggX9_rank_X9_finding : GoodIn wsX9_rank wsX9_finding := goodIn_r _ [8, 9, 10, 11, 12, 13, 14, 15, 16, 17, 18, 19, 20] rfl (by decide +kernel)
set_option maxRecDepth 20000 in
theorem gX9_rank_X9_finding : GoodIn wsX9_rank (wsV RX9 44 RX9 yX9_finding wsX9_finding) := goodIn_app (goodIn_r _ [4, 5, 6, 7] rfl (by decide +kernel)) ggX9_rank_X9_finding
theorem dX9_rank_10 : decode cX9_rank 10 = .ok (.invokevirtual 44, 3) := by decide +kernel
theorem dX9_rank_13 : decode cX9_rank 13 = .ok (.goto 10, 3) := by decide +kernel
set_option maxRecDepth 20000 in
theorem ihX9_rank_3 : ∀ w ∈ u_ws RX3 TX3 3, w ∈ wsX9_rank := fun _ h => List.mem_cons_of_mem _ (List.mem_append_right _ h)
set_option maxRecDepth 20000 in
theorem ihX9_rank_9 : ∀ w ∈ u_ws RX9 TX9 11, w ∈ wsX9_rank := fun _ h => List.mem_cons_of_mem _ (List.mem_append_left _ (List.mem_append_right _ h))
set_option maxHeartbeats 4000000 in
set_option maxRecDepth 100000 in
theorem t_X9_rank (l : Launch) (D : va_G) (cy : Nat → ClassId) (a : Nat → Nat) (sz : Nat) (J : Nat → Int64) (I : Nat → Int32) (O : Nat → Option Nat) (R : Nat → Nat → Int32) (RO : Nat → Nat → Option Nat) (LL : va_W) (Y : va_W)  (hM : CI a Y I O RO) : Met l yX9_rank wsX9_rank ({ frames := 1, cells := 0, slots := 0, locals := 21 }) (va_Pc [.ref (a 0)] (PW D cy sz (CT cy a J I O R RO (LL ++ Y)))) (va_Qi (fun r (u : TS) => ∃ (w0 : Int32), ∃ (w1 : Option Nat), ((layO Y w1)) ∧ u = (J, (va_up I 10 w0), (va_up O 8 w1), R, RO, LL, Y)) (BW D (va_A (CT cy a J I O R RO (LL ++ Y)) sz) (CTu cy a)) (va_A (CT cy a J I O R RO (LL ++ Y)) sz)) 0 0 (va_A (CT cy a J I O R RO (LL ++ Y)) sz) := by
  refine Met.ofW (cc := cX9_rank) (maxL := 1) (ret := (some .int)) (by decide) rfl ?_
  intro p e s m args below meth c s₁ B hml hv
  obtain ⟨rfl, rfl, hP, hK, hN, hD0⟩ := hv
  have hx := B.exec
  have hb := B.bytes
  have hr := B.returns
  have hts := atoms_spec (ws := wsX9_rank) B.pre
  have hown : s.vm.findClass RX9 = some m.cls := findClass_of_methodNamed B.named
  have hlocks := B.notSynchronized
  have hw0 := hts (.fieldLink RX9 133 "ParquetLayer" "hand" "LParquetLayer$Laying;") (by decide +kernel)
  have hw1 := hts (.fieldLink RX9 196 "ParquetLayer$Laying" "number" "I") (by decide +kernel)
  have hw2 := hts (.constant RX9 137 (-100006)) (by decide +kernel)
  have hi3 := ihX9_rank_3
  have hi9 := ihX9_rank_9
  have hD := hD0.self (sz := s.heap.size)
  generalize hAe : va_A (CT cy a J I O R RO (LL ++ Y)) s.heap.size = A at hD ⊢
  have hA : ∀ q : Nat, s.heap.size ≤ q → A q := fun q h => by rw [← hAe]; exact Or.inr h
  have hS : va_S A s.heap s.heap [] := va_S.rf
  have hl := lv_entry ([.ref (a 0)]) (n := 1) (Nat.le_of_ble_eq_true rfl)
  rw [lg_entry_eq]
  generalize (lg_sl ([.ref (a 0)]) ++ List.replicate (1 - (lg_sl ([.ref (a 0)])).length) Slot.unset).toArray = ls at hl ⊢
  have hl : lv_has ls 1 [(0, .ref (a 0))] := hl
  have hRO0 := hM.2.2.2.2.2.2.2.2.1
  have hRO1 := hM.2.2.2.2.2.2.2.2.2.1
  have hRO2 := hM.2.2.2.2.2.2.2.2.2.2.1
  have hRO3 := hM.2.2.2.2.2.2.2.2.2.2.2
  have hP : va_P D vwCl (CT cy a J (va_up I 10 (I 10)) (va_up O 8 (O 8)) R RO (LL ++ Y)) s.heap := hP
  have hD : va_D A (CT cy a J (va_up I 10 (I 10)) (va_up O 8 (O 8)) R RO (LL ++ Y)) := hD
  refine lv_aload_n hx hb dX9_rank_0 rfl (lv_at hl 0 rfl) ?_
  refine va_get (D := D) (ci := 8) (v := va_rf (O 8)) (C := RX9) (T := TX9) (N := 11) hx hb hts hi9 hown hK hP 0 rfl rfl 8 (by decide) hw0 (fun _ h9 => h9) rfl dX9_rank_1 ?_
  refine lv_ifnonnullO (tgt := 16) hx hb dX9_rank_4 (by decide) (fun c_1 => ?_) (fun c_1 => ?_)
  · obtain ⟨b_2, v_5, v_6, v_7, e_4, hm_3⟩ := lay_some hM.2.2.1 c_1
    rw [e_4] at hP hD
    have hi_8 : layO Y (some b_2) := by rw [← e_4]; exact hM.2.2.1
    refine lv_aload_n hx hb dX9_rank_16 rfl (lv_at hl 0 rfl) ?_
    refine va_get (D := D) (ci := 8) (v := .ref b_2) (C := RX9) (T := TX9) (N := 11) hx hb hts hi9 hown hK hP 0 rfl rfl 8 (by decide) hw0 (fun _ h9 => h9) rfl dX9_rank_17 ?_
    obtain ⟨k_9, hk_10⟩ : ∃ k : Nat, (CT cy a J (va_up I 10 (I 10)) (va_up O 8 (some b_2)) R RO (LL ++ Y))[k]? = some (b_2, .inr (2, [.int v_5, .long v_6, .long v_7])) := pixT hm_3
    refine va_get (D := D) (ci := 2) (v := .int v_5) (C := RX3) (T := TX3) (N := 3) hx hb hts hi3 hown hK hP k_9 hk_10 rfl 0 (by decide) hw1 (fun _ h9 => h9) rfl dX9_rank_20 ?_
    exact wret_i hx hb hr hlocks (J, (va_up I 10 (I 10)), (va_up O 8 (some b_2)), R, RO, LL, Y) ⟨(I 10), (some b_2), hi_8, rfl⟩ hP hD hS dX9_rank_23
  · rw [c_1] at hP hD
    have hi_11 : layO Y none := by rw [← c_1]; exact hM.2.2.1
    refine lv_aload_n hx hb dX9_rank_7 rfl (lv_at hl 0 rfl) ?_
    refine lv_ldc (v := (-100006)) hx hb hown hw2 dX9_rank_8 ?_
    refine kM_i (As := [.int (-100006)]) (rest := []) (q0 := 0) ⟨hx, hb, hml, hown, hts⟩ (t_X9_finding l D cy a _ J (va_up I 10 (I 10)) (va_up O 8 none) R RO LL Y ((-100006) : Int32)   ) (cwV 1 hts gX9_rank_X9_finding rfl rfl rfl (by decide +kernel) ⟨Nat.le_of_ble_eq_true rfl, Nat.le_of_ble_eq_true rfl⟩) hK hN hP hD hS hA rfl rfl rfl hl.1 rfl (Nat.le_of_ble_eq_true rfl) dX9_rank_10 ⟨Nat.le_of_ble_eq_true rfl, Nat.le_of_ble_eq_true rfl⟩ (fun r_12 u H locs hw hP hD hS => ?_)
    obtain ⟨w_13, rfl, rfl⟩ := hw
    have hP : va_P D vwCl (CT cy a J (va_up I 10 w_13) (va_up O 8 none) R RO (LL ++ Y)) H := hP
    have hD : va_D A (CT cy a J (va_up I 10 w_13) (va_up O 8 none) R RO (LL ++ Y)) := hD
    refine lv_goto (tgt := 23) hx hb dX9_rank_13 (by decide) ?_
    exact wret_i hx hb hr hlocks (J, (va_up I 10 w_13), (va_up O 8 none), R, RO, LL, Y) ⟨w_13, none, hi_11, rfl⟩ hP hD hS dX9_rank_23
theorem dX9_next_0 : decode cX9_next 0 = .ok (.aload_n 0, 1) := by decide +kernel
theorem dX9_next_1 : decode cX9_next 1 = .ok (.getfield 133, 3) := by decide +kernel
theorem dX9_next_4 : decode cX9_next 4 = .ok (.ifnull 19, 3) := by decide +kernel
theorem dX9_next_23 : decode cX9_next 23 = .ok (.aload_n 0, 1) := by decide +kernel
theorem dX9_next_24 : decode cX9_next 24 = .ok (.ldc 137, 2) := by decide +kernel
set_option maxRecDepth 20000 in
theorem ggX9_next_X9_finding : GoodIn wsX9_next wsX9_finding := goodIn_r _ [68, 69, 108, 109, 110, 111, 112, 113, 114, 115, 116, 117, 118] rfl (by decide +kernel)
set_option maxRecDepth 20000 in
theorem gX9_next_X9_finding : GoodIn wsX9_next (wsV RX9 44 RX9 yX9_finding wsX9_finding) := goodIn_app (goodIn_r _ [65, 66, 67, 7] rfl (by decide +kernel)) ggX9_next_X9_finding
theorem dX9_next_26 : decode cX9_next 26 = .ok (.invokevirtual 44, 3) := by decide +kernel
theorem dX9_next_29 : decode cX9_next 29 = .ok (.ireturn, 1) := by decide +kernel
theorem dX9_next_7 : decode cX9_next 7 = .ok (.aload_n 0, 1) := by decide +kernel
theorem dX9_next_8 : decode cX9_next 8 = .ok (.aload_n 0, 1) := by decide +kernel
theorem dX9_next_9 : decode cX9_next 9 = .ok (.getfield 133, 3) := by decide +kernel
theorem dX9_next_12 : decode cX9_next 12 = .ok (.getfield 196, 3) := by decide +kernel
theorem dX9_next_15 : decode cX9_next 15 = .ok (.iconst 1, 1) := by decide +kernel
theorem dX9_next_16 : decode cX9_next 16 = .ok (.iadd, 1) := by decide +kernel
set_option maxRecDepth 20000 in
theorem ggX9_next_X9_isLaying : GoodIn wsX9_next wsX9_isLaying := goodIn_r _ [8, 9, 10, 11, 7, 12, 13, 14, 15, 16, 17, 18, 19, 20, 21, 22, 23, 24, 25, 26, 27, 28, 29, 30, 31, 32, 33, 34, 35, 36, 37, 38, 39, 40, 41, 42, 43, 44, 45, 46, 47, 48, 49, 50, 51, 52, 53, 54, 55, 56, 57, 58, 59, 60, 61, 62, 63, 64, 108, 109, 110, 111, 112, 113, 114, 115, 116, 117, 118, 122, 123, 124, 125, 126, 127, 128, 129, 130, 131, 132] rfl (by decide +kernel)
set_option maxRecDepth 20000 in
theorem gX9_next_X9_isLaying : GoodIn wsX9_next (wsV RX9 189 RX9 yX9_isLaying wsX9_isLaying) := goodIn_app (goodIn_r _ [4, 5, 6, 7] rfl (by decide +kernel)) ggX9_next_X9_isLaying
theorem dX9_next_17 : decode cX9_next 17 = .ok (.invokevirtual 189, 3) := by decide +kernel
theorem dX9_next_20 : decode cX9_next 20 = .ok (.ifCond .ne 10, 3) := by decide +kernel
theorem dX9_next_30 : decode cX9_next 30 = .ok (.aload_n 0, 1) := by decide +kernel
theorem dX9_next_31 : decode cX9_next 31 = .ok (.aload_n 0, 1) := by decide +kernel
theorem dX9_next_32 : decode cX9_next 32 = .ok (.aload_n 0, 1) := by decide +kernel
theorem dX9_next_33 : decode cX9_next 33 = .ok (.getfield 133, 3) := by decide +kernel
theorem dX9_next_36 : decode cX9_next 36 = .ok (.getfield 196, 3) := by decide +kernel
theorem dX9_next_39 : decode cX9_next 39 = .ok (.iconst 1, 1) := by decide +kernel
theorem dX9_next_40 : decode cX9_next 40 = .ok (.iadd, 1) := by decide +kernel
set_option maxRecDepth 20000 in
theorem ggX9_next_X9_layingOf : GoodIn wsX9_next wsX9_layingOf := goodIn_r _ [73, 74, 75, 76, 9, 10, 11, 7, 12, 13, 14, 15, 16, 17, 18, 19, 20, 21, 22, 23, 24, 25, 26, 27, 28, 29, 30, 31, 32, 33, 34, 35, 36, 37, 38, 39, 40, 41, 42, 43, 44, 45, 46, 47, 48, 49, 50, 51, 52, 53, 54, 55, 56, 57, 58, 59, 60, 77, 78, 79, 80, 81, 82, 83, 84, 85, 86, 87, 88, 89, 90, 91, 92, 93, 94, 95, 96, 97, 98, 99, 100, 101, 102, 103, 104, 105, 106, 107, 119, 120, 121, 108, 109, 110, 111, 112, 113, 114, 115, 116, 117, 118, 122, 123, 124, 125, 126, 127, 128, 129, 130, 131, 132] rfl (by decide +kernel)
set_option maxRecDepth 20000 in
theorem gX9_next_X9_layingOf : GoodIn wsX9_next (wsV RX9 192 RX9 yX9_layingOf wsX9_layingOf) := goodIn_app (goodIn_r _ [70, 71, 72, 7] rfl (by decide +kernel)) ggX9_next_X9_layingOf
theorem dX9_next_41 : decode cX9_next 41 = .ok (.invokevirtual 192, 3) := by decide +kernel
theorem dX9_next_44 : decode cX9_next 44 = .ok (.putfield 133, 3) := by decide +kernel
theorem dX9_next_47 : decode cX9_next 47 = .ok (.aload_n 0, 1) := by decide +kernel
theorem dX9_next_48 : decode cX9_next 48 = .ok (.getfield 133, 3) := by decide +kernel
theorem dX9_next_51 : decode cX9_next 51 = .ok (.getfield 196, 3) := by decide +kernel
theorem dX9_next_54 : decode cX9_next 54 = .ok (.ireturn, 1) := by decide +kernel
set_option maxRecDepth 20000 in
theorem ihX9_next_3 : ∀ w ∈ u_ws RX3 TX3 3, w ∈ wsX9_next := fun _ h => List.mem_cons_of_mem _ (List.mem_append_left _ (List.mem_append_left _ (List.mem_append_right _ h)))
set_option maxRecDepth 20000 in
theorem ihX9_next_9 : ∀ w ∈ u_ws RX9 TX9 11, w ∈ wsX9_next := fun _ h => List.mem_cons_of_mem _ (List.mem_append_left _ (List.mem_append_left _ (List.mem_append_left _ (List.mem_append_right _ h))))
set_option maxHeartbeats 4000000 in
set_option maxRecDepth 100000 in
theorem t_X9_next (l : Launch) (D : va_G) (cy : Nat → ClassId) (a : Nat → Nat) (sz : Nat) (J : Nat → Int64) (I : Nat → Int32) (O : Nat → Option Nat) (R : Nat → Nat → Int32) (RO : Nat → Nat → Option Nat) (LL : va_W) (Y : va_W)  (hM : CI a Y I O RO) (hL : LOK cy (O 5) LL) : Met l yX9_next wsX9_next ({ frames := 6, cells := 7, slots := 34315, locals := 145 }) (va_Pc [.ref (a 0)] (PW D cy sz (CT cy a J I O R RO (LL ++ Y)))) (va_Qi (fun r (u : TS) => ∃ (w0 : Int32), ∃ (w1 : Option Nat), ∃ (w2 : Option Nat), ∃ (LL9 : va_W), ∃ (Y9 : va_W), ((layO Y9 w2) ∧ (∀ c, c ∈ Y → c ∈ Y9) ∧ LOK cy w1 LL9) ∧ u = (J, (va_up I 10 w0), (va_up (va_up O 5 w1) 8 w2), R, RO, LL9, Y9)) (BW D (va_A (CT cy a J I O R RO (LL ++ Y)) sz) (CTu cy a)) (va_A (CT cy a J I O R RO (LL ++ Y)) sz)) 7 34315 (va_A (CT cy a J I O R RO (LL ++ Y)) sz) := by
  refine Met.ofW (cc := cX9_next) (maxL := 1) (ret := (some .int)) (by decide) rfl ?_
  intro p e s m args below meth c s₁ B hml hv
  obtain ⟨rfl, rfl, hP, hK, hN, hD0⟩ := hv
  have hx := B.exec
  have hb := B.bytes
  have hr := B.returns
  have hts := atoms_spec (ws := wsX9_next) B.pre
  have hown : s.vm.findClass RX9 = some m.cls := findClass_of_methodNamed B.named
  have hlocks := B.notSynchronized
  have hw0 := hts (.fieldLink RX9 133 "ParquetLayer" "hand" "LParquetLayer$Laying;") (by decide +kernel)
  have hw1 := hts (.constant RX9 137 (-100006)) (by decide +kernel)
  have hw2 := hts (.fieldLink RX9 196 "ParquetLayer$Laying" "number" "I") (by decide +kernel)
  have hi3 := ihX9_next_3
  have hi9 := ihX9_next_9
  have hD := hD0.self (sz := s.heap.size)
  generalize hAe : va_A (CT cy a J I O R RO (LL ++ Y)) s.heap.size = A at hD ⊢
  have hA : ∀ q : Nat, s.heap.size ≤ q → A q := fun q h => by rw [← hAe]; exact Or.inr h
  have hS : va_S A s.heap s.heap [] := va_S.rf
  have hl := lv_entry ([.ref (a 0)]) (n := 1) (Nat.le_of_ble_eq_true rfl)
  rw [lg_entry_eq]
  generalize (lg_sl ([.ref (a 0)]) ++ List.replicate (1 - (lg_sl ([.ref (a 0)])).length) Slot.unset).toArray = ls at hl ⊢
  have hl : lv_has ls 1 [(0, .ref (a 0))] := hl
  have hRO0 := hM.2.2.2.2.2.2.2.2.1
  have hRO1 := hM.2.2.2.2.2.2.2.2.2.1
  have hRO2 := hM.2.2.2.2.2.2.2.2.2.2.1
  have hRO3 := hM.2.2.2.2.2.2.2.2.2.2.2
  have hP : va_P D vwCl (CT cy a J (va_up I 10 (I 10)) (va_up (va_up O 5 (O 5)) 8 (O 8)) R RO (LL ++ Y)) s.heap := hP
  have hD : va_D A (CT cy a J (va_up I 10 (I 10)) (va_up (va_up O 5 (O 5)) 8 (O 8)) R RO (LL ++ Y)) := hD
  refine lv_aload_n hx hb dX9_next_0 rfl (lv_at hl 0 rfl) ?_
  refine va_get (D := D) (ci := 8) (v := va_rf (O 8)) (C := RX9) (T := TX9) (N := 11) hx hb hts hi9 hown hK hP 0 rfl rfl 8 (by decide) hw0 (fun _ h9 => h9) rfl dX9_next_1 ?_
  refine lv_ifnullO (tgt := 23) hx hb dX9_next_4 (by decide) (fun c_1 => ?_) (fun c_1 => ?_)
  · rw [c_1] at hP hD
    have hi_2 : layO Y none := by rw [← c_1]; exact hM.2.2.1
    refine lv_aload_n hx hb dX9_next_23 rfl (lv_at hl 0 rfl) ?_
    refine lv_ldc (v := (-100006)) hx hb hown hw1 dX9_next_24 ?_
    refine kM_i (As := [.int (-100006)]) (rest := []) (q0 := 0) ⟨hx, hb, hml, hown, hts⟩ (t_X9_finding l D cy a _ J (va_up I 10 (I 10)) (va_up (va_up O 5 (O 5)) 8 none) R RO LL Y ((-100006) : Int32)   ) (cwV 1 hts gX9_next_X9_finding rfl rfl rfl (by decide +kernel) ⟨Nat.le_of_ble_eq_true rfl, Nat.le_of_ble_eq_true rfl⟩) hK hN hP hD hS hA rfl rfl rfl hl.1 rfl (Nat.le_of_ble_eq_true rfl) dX9_next_26 ⟨Nat.le_of_ble_eq_true rfl, Nat.le_of_ble_eq_true rfl⟩ (fun r_3 u H locs hw hP hD hS => ?_)
    obtain ⟨w_4, rfl, rfl⟩ := hw
    have hP : va_P D vwCl (CT cy a J (va_up I 10 w_4) (va_up (va_up O 5 (O 5)) 8 none) R RO (LL ++ Y)) H := hP
    have hD : va_D A (CT cy a J (va_up I 10 w_4) (va_up (va_up O 5 (O 5)) 8 none) R RO (LL ++ Y)) := hD
    refine W.widen (k := 7) (n := 34315) (Nat.le_of_ble_eq_true rfl) (Nat.le_of_ble_eq_true rfl) ?_
    exact wret_i hx hb hr hlocks (J, (va_up I 10 w_4), (va_up (va_up O 5 (O 5)) 8 none), R, RO, LL, Y) ⟨w_4, (O 5), none, LL, Y, ⟨hi_2, (fun _ h => h), hL⟩, rfl⟩ hP hD hS dX9_next_29
  · obtain ⟨b_5, v_8, v_9, v_10, e_7, hm_6⟩ := lay_some hM.2.2.1 c_1
    rw [e_7] at hP hD
    have hi_11 : layO Y (some b_5) := by rw [← e_7]; exact hM.2.2.1
    refine lv_aload_n hx hb dX9_next_7 rfl (lv_at hl 0 rfl) ?_
    refine lv_aload_n hx hb dX9_next_8 rfl (lv_at hl 0 rfl) ?_
    refine va_get (D := D) (ci := 8) (v := .ref b_5) (C := RX9) (T := TX9) (N := 11) hx hb hts hi9 hown hK hP 0 rfl rfl 8 (by decide) hw0 (fun _ h9 => h9) rfl dX9_next_9 ?_
    obtain ⟨k_12, hk_13⟩ : ∃ k : Nat, (CT cy a J (va_up I 10 (I 10)) (va_up (va_up O 5 (O 5)) 8 (some b_5)) R RO (LL ++ Y))[k]? = some (b_5, .inr (2, [.int v_8, .long v_9, .long v_10])) := pixT hm_6
    refine va_get (D := D) (ci := 2) (v := .int v_8) (C := RX3) (T := TX3) (N := 3) hx hb hts hi3 hown hK hP k_12 hk_13 rfl 0 (by decide) hw2 (fun _ h9 => h9) rfl dX9_next_12 ?_
    refine lv_iconst (v := 1) hx hb dX9_next_15 (by decide) ?_
    refine lv_iadd hx hb dX9_next_16 ?_
    refine kM_i (As := [.int (v_8 + 1)]) (rest := []) (q0 := 0) ⟨hx, hb, hml, hown, hts⟩ (t_X9_isLaying l D cy a _ J (va_up I 10 (I 10)) (va_up (va_up O 5 (O 5)) 8 (some b_5)) R RO LL Y (v_8 + 1)  ⟨hM.1, hM.2.1, hi_11, hM.2.2.2.1, hM.2.2.2.2.1, hM.2.2.2.2.2.1, hM.2.2.2.2.2.2.1, hM.2.2.2.2.2.2.2.1, hRO0, hRO1, hRO2, hRO3⟩ hL) (cwV 1 hts gX9_next_X9_isLaying rfl rfl rfl (by decide +kernel) ⟨Nat.le_of_ble_eq_true rfl, Nat.le_of_ble_eq_true rfl⟩) hK hN hP hD hS hA rfl rfl rfl hl.1 rfl (Nat.le_of_ble_eq_true rfl) dX9_next_17 ⟨Nat.le_of_ble_eq_true rfl, Nat.le_of_ble_eq_true rfl⟩ (fun r_14 u H locs hw hP hD hS => ?_)
    obtain ⟨w_15, zb_16, LL_17, ⟨rfl, hL_18⟩, rfl⟩ := hw
    have hP : va_P D vwCl (CT cy a J (va_up I 10 (I 10)) (va_up (va_up O 5 w_15) 8 (some b_5)) R RO (LL_17 ++ Y)) H := hP
    have hD : va_D A (CT cy a J (va_up I 10 (I 10)) (va_up (va_up O 5 w_15) 8 (some b_5)) R RO (LL_17 ++ Y)) := hD
    refine lv_if_ne (tgt := 30) hx hb dX9_next_20 (by decide) (fun c_19 => ?_) (fun c_19 => ?_)
    · replace c_19 := bI_t c_19
      refine lv_aload_n hx hb dX9_next_30 rfl (lv_at hl 0 rfl) ?_
      refine lv_aload_n hx hb dX9_next_31 rfl (lv_at hl 0 rfl) ?_
      refine lv_aload_n hx hb dX9_next_32 rfl (lv_at hl 0 rfl) ?_
      refine va_get (D := D) (ci := 8) (v := .ref b_5) (C := RX9) (T := TX9) (N := 11) hx hb hts hi9 hown hK hP 0 rfl rfl 8 (by decide) hw0 (fun _ h9 => h9) rfl dX9_next_33 ?_
      obtain ⟨k_20, hk_21⟩ : ∃ k : Nat, (CT cy a J (va_up I 10 (I 10)) (va_up (va_up O 5 w_15) 8 (some b_5)) R RO (LL_17 ++ Y))[k]? = some (b_5, .inr (2, [.int v_8, .long v_9, .long v_10])) := pixT hm_6
      refine va_get (D := D) (ci := 2) (v := .int v_8) (C := RX3) (T := TX3) (N := 3) hx hb hts hi3 hown hK hP k_20 hk_21 rfl 0 (by decide) hw2 (fun _ h9 => h9) rfl dX9_next_36 ?_
      refine lv_iconst (v := 1) hx hb dX9_next_39 (by decide) ?_
      refine lv_iadd hx hb dX9_next_40 ?_
      refine kM_r (As := [.int (v_8 + 1)]) (rest := [.ref (a 0)]) (q0 := 0) ⟨hx, hb, hml, hown, hts⟩ (t_X9_layingOf l D cy a _ J (va_up I 10 (I 10)) (va_up (va_up O 5 w_15) 8 (some b_5)) R RO LL_17 Y (v_8 + 1)  ⟨hM.1, hM.2.1, hi_11, hM.2.2.2.1, hM.2.2.2.2.1, hM.2.2.2.2.2.1, hM.2.2.2.2.2.2.1, hM.2.2.2.2.2.2.2.1, hRO0, hRO1, hRO2, hRO3⟩ hL_18) (cwV 1 hts gX9_next_X9_layingOf rfl rfl rfl (by decide +kernel) ⟨Nat.le_of_ble_eq_true rfl, Nat.le_of_ble_eq_true rfl⟩) hK hN hP hD hS hA rfl rfl rfl hl.1 rfl (Nat.le_of_ble_eq_true rfl) dX9_next_41 ⟨Nat.le_of_ble_eq_true rfl, Nat.le_of_ble_eq_true rfl⟩ (fun u r_22 H locs hw hP hD hS => ?_)
      obtain ⟨g_23, g_24, g_25, g_26⟩ := u
      have hL_27 : LOK cy g_23 g_24 := hw
      have hs_28 : ∀ c, c ∈ Y → c ∈ (Y ++ [laC r_22 (v_8 + 1) g_25 g_26]) := fun c h => List.mem_append_left _ h
      have hi_29 : chO (Y ++ [laC r_22 (v_8 + 1) g_25 g_26]) (O 7) := chO_mono hs_28 hM.2.1
      have hi_30 : layO (Y ++ [laC r_22 (v_8 + 1) g_25 g_26]) (some b_5) := layO_mono hs_28 hi_11
      have hi_31 : ∀ i, i < 20 → pasO (Y ++ [laC r_22 (v_8 + 1) g_25 g_26]) ((RO 2) i) := pas_mono hs_28 hM.2.2.2.1
      have hmono_32 : ∀ c, c ∈ Y → c ∈ (Y ++ [laC r_22 (v_8 + 1) g_25 g_26]) := fun c h => hs_28 c ((fun _ h => h) c h)
      have hP : va_P D vwCl (CT cy a J (va_up I 10 (I 10)) (va_up (va_up O 5 g_23) 8 (some b_5)) R RO (g_24 ++ (Y ++ [laC r_22 (v_8 + 1) g_25 g_26]))) H := hP
      have hD : va_D A (CT cy a J (va_up I 10 (I 10)) (va_up (va_up O 5 g_23) 8 (some b_5)) R RO (g_24 ++ (Y ++ [laC r_22 (v_8 + 1) g_25 g_26]))) := hD
      refine va_put (D := D) (ci := 8) (v := .ref r_22) (ty := .object "ParquetLayer$Laying") (C := RX9) (T := TX9) (N := 11) hx hb hts hi9 tyX9 tyX9_ok nmX9 hown hK hP hD hS 0 rfl rfl 8 (by decide) hw0 (fun _ h9 => h9) rfl (by decide +kernel) rfl rfl (Nat.le_of_ble_eq_true rfl) dX9_next_44 (fun H locs hP hD hS => ?_)
      have hP : va_P D vwCl (CT cy a J (va_up I 10 (I 10)) (va_up (va_up O 5 g_23) 8 (some r_22)) R RO (g_24 ++ (Y ++ [laC r_22 (v_8 + 1) g_25 g_26]))) H := hP
      have hD : va_D A (CT cy a J (va_up I 10 (I 10)) (va_up (va_up O 5 g_23) 8 (some r_22)) R RO (g_24 ++ (Y ++ [laC r_22 (v_8 + 1) g_25 g_26]))) := hD
      have hi_33 : layO (Y ++ [laC r_22 (v_8 + 1) g_25 g_26]) (some r_22) := (Or.inr ⟨_, _, _, _, rfl, mem_last⟩)
      refine lv_aload_n hx hb dX9_next_47 rfl (lv_at hl 0 rfl) ?_
      refine va_get (D := D) (ci := 8) (v := .ref r_22) (C := RX9) (T := TX9) (N := 11) hx hb hts hi9 hown hK hP 0 rfl rfl 8 (by decide) hw0 (fun _ h9 => h9) rfl dX9_next_48 ?_
      obtain ⟨k_34, hk_35⟩ : ∃ k : Nat, (CT cy a J (va_up I 10 (I 10)) (va_up (va_up O 5 g_23) 8 (some r_22)) R RO (g_24 ++ (Y ++ [laC r_22 (v_8 + 1) g_25 g_26])))[k]? = some (r_22, .inr (2, [.int (v_8 + 1), .long g_25, .long g_26])) := pixT mem_last
      refine va_get (D := D) (ci := 2) (v := .int (v_8 + 1)) (C := RX3) (T := TX3) (N := 3) hx hb hts hi3 hown hK hP k_34 hk_35 rfl 0 (by decide) hw2 (fun _ h9 => h9) rfl dX9_next_51 ?_
      exact wret_i hx hb hr hlocks (J, (va_up I 10 (I 10)), (va_up (va_up O 5 g_23) 8 (some r_22)), R, RO, g_24, Y ++ [laC r_22 (v_8 + 1) g_25 g_26]) ⟨(I 10), g_23, (some r_22), g_24, (Y ++ [laC r_22 (v_8 + 1) g_25 g_26]), ⟨hi_33, hmono_32, hL_27⟩, rfl⟩ hP hD hS dX9_next_54
    · replace c_19 := bI_f c_19
      refine lv_aload_n hx hb dX9_next_23 rfl (lv_at hl 0 rfl) ?_
      refine lv_ldc (v := (-100006)) hx hb hown hw1 dX9_next_24 ?_
      refine kM_i (As := [.int (-100006)]) (rest := []) (q0 := 0) ⟨hx, hb, hml, hown, hts⟩ (t_X9_finding l D cy a _ J (va_up I 10 (I 10)) (va_up (va_up O 5 w_15) 8 (some b_5)) R RO LL_17 Y ((-100006) : Int32)   ) (cwV 1 hts gX9_next_X9_finding rfl rfl rfl (by decide +kernel) ⟨Nat.le_of_ble_eq_true rfl, Nat.le_of_ble_eq_true rfl⟩) hK hN hP hD hS hA rfl rfl rfl hl.1 rfl (Nat.le_of_ble_eq_true rfl) dX9_next_26 ⟨Nat.le_of_ble_eq_true rfl, Nat.le_of_ble_eq_true rfl⟩ (fun r_36 u H locs hw hP hD hS => ?_)
      obtain ⟨w_37, rfl, rfl⟩ := hw
      have hP : va_P D vwCl (CT cy a J (va_up I 10 w_37) (va_up (va_up O 5 w_15) 8 (some b_5)) R RO (LL_17 ++ Y)) H := hP
      have hD : va_D A (CT cy a J (va_up I 10 w_37) (va_up (va_up O 5 w_15) 8 (some b_5)) R RO (LL_17 ++ Y)) := hD
      refine W.widen (k := 7) (n := 34315) (Nat.le_of_ble_eq_true rfl) (Nat.le_of_ble_eq_true rfl) ?_
      exact wret_i hx hb hr hlocks (J, (va_up I 10 w_37), (va_up (va_up O 5 w_15) 8 (some b_5)), R, RO, LL_17, Y) ⟨w_37, w_15, (some b_5), LL_17, Y, ⟨hi_11, (fun _ h => h), hL_18⟩, rfl⟩ hP hD hS dX9_next_29
theorem dX9_draw_0 : decode cX9_draw 0 = .ok (.aload_n 0, 1) := by decide +kernel
set_option maxRecDepth 20000 in
theorem ggX9_draw_X9_knownLayings : GoodIn wsX9_draw wsX9_knownLayings := goodIn_r _ [8, 9, 10, 11, 12, 13, 14, 15, 16, 17, 18, 19, 20, 21, 22, 23, 24, 25, 7, 26, 27, 28, 29, 30, 31, 32, 33, 34, 35, 36, 37, 38, 39, 40, 41, 42, 43, 44, 45, 46, 47, 48, 49, 50, 51, 52, 53, 54, 55, 56, 109, 110, 111, 112, 113, 114, 115, 116, 117, 118, 119, 123, 124, 125, 126, 127, 128, 129, 130, 131, 132, 133] rfl (by decide +kernel)
set_option maxRecDepth 20000 in
theorem gX9_draw_X9_knownLayings : GoodIn wsX9_draw (wsV RX9 170 RX9 yX9_knownLayings wsX9_knownLayings) := goodIn_app (goodIn_r _ [4, 5, 6, 7] rfl (by decide +kernel)) ggX9_draw_X9_knownLayings
theorem dX9_draw_1 : decode cX9_draw 1 = .ok (.invokevirtual 170, 3) := by decide +kernel
set_option maxRecDepth 20000 in
theorem ggX9_draw_X4_total : GoodIn wsX9_draw wsX4_total := goodIn_r _ [60, 21, 123, 124, 125, 126] rfl (by decide +kernel)
set_option maxRecDepth 20000 in
theorem gX9_draw_X4_total : GoodIn wsX9_draw (wsV RX9 174 RX4 yX4_total wsX4_total) := goodIn_app (goodIn_r _ [57, 58, 59, 12] rfl (by decide +kernel)) ggX9_draw_X4_total
theorem dX9_draw_4 : decode cX9_draw 4 = .ok (.invokevirtual 174, 3) := by decide +kernel
theorem dX9_draw_7 : decode cX9_draw 7 = .ok (.istore_n 2, 1) := by decide +kernel
theorem dX9_draw_8 : decode cX9_draw 8 = .ok (.iload_n 2, 1) := by decide +kernel
theorem dX9_draw_9 : decode cX9_draw 9 = .ok (.ifCond .ne 10, 3) := by decide +kernel
theorem dX9_draw_19 : decode cX9_draw 19 = .ok (.aload_n 0, 1) := by decide +kernel
theorem dX9_draw_20 : decode cX9_draw 20 = .ok (.aload_n 0, 1) := by decide +kernel
theorem dX9_draw_21 : decode cX9_draw 21 = .ok (.iload_n 1, 1) := by decide +kernel
theorem dX9_draw_22 : decode cX9_draw 22 = .ok (.iload_n 2, 1) := by decide +kernel
set_option maxRecDepth 20000 in
theorem ggX9_draw_X9_drawnNumber : GoodIn wsX9_draw wsX9_drawnNumber := goodIn_r _ [68, 69, 70] rfl (by decide +kernel)
set_option maxRecDepth 20000 in
theorem gX9_draw_X9_drawnNumber : GoodIn wsX9_draw (va_wsS RX9 197 yX9_drawnNumber wsX9_drawnNumber) := goodIn_app (goodIn_r _ [66, 67, 7] rfl (by decide +kernel)) ggX9_draw_X9_drawnNumber
theorem dX9_draw_23 : decode cX9_draw 23 = .ok (.invokestatic 197, 3) := by decide +kernel
set_option maxRecDepth 20000 in
theorem ggX9_draw_X9_layingOf : GoodIn wsX9_draw wsX9_layingOf := goodIn_r _ [74, 75, 76, 77, 4, 5, 6, 7, 8, 9, 10, 11, 12, 13, 14, 15, 16, 17, 18, 19, 20, 21, 22, 23, 24, 25, 26, 27, 28, 29, 30, 31, 32, 33, 34, 35, 36, 37, 38, 39, 40, 41, 42, 43, 44, 45, 46, 47, 48, 49, 50, 51, 52, 53, 54, 55, 56, 78, 79, 80, 81, 82, 83, 84, 85, 86, 87, 88, 89, 90, 91, 92, 93, 94, 95, 96, 97, 98, 99, 100, 101, 102, 103, 104, 105, 106, 107, 108, 120, 121, 122, 109, 110, 111, 112, 113, 114, 115, 116, 117, 118, 119, 123, 124, 125, 126, 127, 128, 129, 130, 131, 132, 133] rfl (by decide +kernel)
set_option maxRecDepth 20000 in
theorem gX9_draw_X9_layingOf : GoodIn wsX9_draw (wsV RX9 192 RX9 yX9_layingOf wsX9_layingOf) := goodIn_app (goodIn_r _ [71, 72, 73, 7] rfl (by decide +kernel)) ggX9_draw_X9_layingOf
theorem dX9_draw_26 : decode cX9_draw 26 = .ok (.invokevirtual 192, 3) := by decide +kernel
theorem dX9_draw_29 : decode cX9_draw 29 = .ok (.putfield 133, 3) := by decide +kernel
theorem dX9_draw_32 : decode cX9_draw 32 = .ok (.aload_n 0, 1) := by decide +kernel
theorem dX9_draw_33 : decode cX9_draw 33 = .ok (.getfield 133, 3) := by decide +kernel
theorem dX9_draw_36 : decode cX9_draw 36 = .ok (.getfield 196, 3) := by decide +kernel
theorem dX9_draw_39 : decode cX9_draw 39 = .ok (.ireturn, 1) := by decide +kernel
theorem dX9_draw_12 : decode cX9_draw 12 = .ok (.aload_n 0, 1) := by decide +kernel
theorem dX9_draw_13 : decode cX9_draw 13 = .ok (.ldc 137, 2) := by decide +kernel
set_option maxRecDepth 20000 in
theorem ggX9_draw_X9_finding : GoodIn wsX9_draw wsX9_finding := goodIn_r _ [64, 65, 109, 110, 111, 112, 113, 114, 115, 116, 117, 118, 119] rfl (by decide +kernel)
set_option maxRecDepth 20000 in
theorem gX9_draw_X9_finding : GoodIn wsX9_draw (wsV RX9 44 RX9 yX9_finding wsX9_finding) := goodIn_app (goodIn_r _ [61, 62, 63, 7] rfl (by decide +kernel)) ggX9_draw_X9_finding
theorem dX9_draw_15 : decode cX9_draw 15 = .ok (.invokevirtual 44, 3) := by decide +kernel
theorem dX9_draw_18 : decode cX9_draw 18 = .ok (.ireturn, 1) := by decide +kernel
set_option maxRecDepth 20000 in
theorem ihX9_draw_3 : ∀ w ∈ u_ws RX3 TX3 3, w ∈ wsX9_draw := fun _ h => List.mem_cons_of_mem _ (List.mem_append_left _ (List.mem_append_left _ (List.mem_append_right _ h)))
set_option maxRecDepth 20000 in
theorem ihX9_draw_9 : ∀ w ∈ u_ws RX9 TX9 11, w ∈ wsX9_draw := fun _ h => List.mem_cons_of_mem _ (List.mem_append_left _ (List.mem_append_left _ (List.mem_append_left _ (List.mem_append_right _ h))))
set_option maxHeartbeats 4000000 in
set_option maxRecDepth 100000 in
theorem t_X9_draw (l : Launch) (D : va_G) (cy : Nat → ClassId) (a : Nat → Nat) (sz : Nat) (J : Nat → Int64) (I : Nat → Int32) (O : Nat → Option Nat) (R : Nat → Nat → Int32) (RO : Nat → Nat → Option Nat) (LL : va_W) (Y : va_W) (x0 : Int32) (hM : CI a Y I O RO) (hL : LOK cy (O 5) LL) : Met l yX9_draw wsX9_draw ({ frames := 6, cells := 7, slots := 34315, locals := 145 }) (va_Pc [.ref (a 0), .int x0] (PW D cy sz (CT cy a J I O R RO (LL ++ Y)))) (va_Qi (fun r (u : TS) => ∃ (w0 : Int32), ∃ (w1 : Option Nat), ∃ (w2 : Option Nat), ∃ (LL9 : va_W), ∃ (Y9 : va_W), ((layO Y9 w2) ∧ (∀ c, c ∈ Y → c ∈ Y9) ∧ LOK cy w1 LL9) ∧ u = (J, (va_up I 10 w0), (va_up (va_up O 5 w1) 8 w2), R, RO, LL9, Y9)) (BW D (va_A (CT cy a J I O R RO (LL ++ Y)) sz) (CTu cy a)) (va_A (CT cy a J I O R RO (LL ++ Y)) sz)) 7 34315 (va_A (CT cy a J I O R RO (LL ++ Y)) sz) := by
  refine Met.ofW (cc := cX9_draw) (maxL := 3) (ret := (some .int)) (by decide) rfl ?_
  intro p e s m args below meth c s₁ B hml hv
  obtain ⟨rfl, rfl, hP, hK, hN, hD0⟩ := hv
  have hx := B.exec
  have hb := B.bytes
  have hr := B.returns
  have hts := atoms_spec (ws := wsX9_draw) B.pre
  have hown : s.vm.findClass RX9 = some m.cls := findClass_of_methodNamed B.named
  have hlocks := B.notSynchronized
  have hw0 := hts (.fieldLink RX9 133 "ParquetLayer" "hand" "LParquetLayer$Laying;") (by decide +kernel)
  have hw1 := hts (.fieldLink RX9 196 "ParquetLayer$Laying" "number" "I") (by decide +kernel)
  have hw2 := hts (.constant RX9 137 (-100006)) (by decide +kernel)
  have hi3 := ihX9_draw_3
  have hi9 := ihX9_draw_9
  have hD := hD0.self (sz := s.heap.size)
  generalize hAe : va_A (CT cy a J I O R RO (LL ++ Y)) s.heap.size = A at hD ⊢
  have hA : ∀ q : Nat, s.heap.size ≤ q → A q := fun q h => by rw [← hAe]; exact Or.inr h
  have hS : va_S A s.heap s.heap [] := va_S.rf
  have hl := lv_entry ([.ref (a 0), .int x0]) (n := 3) (Nat.le_of_ble_eq_true rfl)
  rw [lg_entry_eq]
  generalize (lg_sl ([.ref (a 0), .int x0]) ++ List.replicate (3 - (lg_sl ([.ref (a 0), .int x0])).length) Slot.unset).toArray = ls at hl ⊢
  have hl : lv_has ls 3 [(0, .ref (a 0)), (1, .int x0)] := hl
  have hRO0 := hM.2.2.2.2.2.2.2.2.1
  have hRO1 := hM.2.2.2.2.2.2.2.2.2.1
  have hRO2 := hM.2.2.2.2.2.2.2.2.2.2.1
  have hRO3 := hM.2.2.2.2.2.2.2.2.2.2.2
  have hP : va_P D vwCl (CT cy a J (va_up I 10 (I 10)) (va_up (va_up O 5 (O 5)) 8 (O 8)) R RO (LL ++ Y)) s.heap := hP
  have hD : va_D A (CT cy a J (va_up I 10 (I 10)) (va_up (va_up O 5 (O 5)) 8 (O 8)) R RO (LL ++ Y)) := hD
  refine lv_aload_n hx hb dX9_draw_0 rfl (lv_at hl 0 rfl) ?_
  refine kM_r (As := []) (rest := []) (q0 := 0) ⟨hx, hb, hml, hown, hts⟩ (t_X9_knownLayings l D cy a _ J (va_up I 10 (I 10)) (va_up (va_up O 5 (O 5)) 8 (O 8)) R RO LL Y   ⟨hM.1, hM.2.1, hM.2.2.1, hM.2.2.2.1, hM.2.2.2.2.1, hM.2.2.2.2.2.1, hM.2.2.2.2.2.2.1, hM.2.2.2.2.2.2.2.1, hRO0, hRO1, hRO2, hRO3⟩ hL) (cwV 0 hts gX9_draw_X9_knownLayings rfl rfl rfl (by decide +kernel) ⟨Nat.le_of_ble_eq_true rfl, Nat.le_of_ble_eq_true rfl⟩) hK hN hP hD hS hA rfl rfl rfl hl.1 rfl (Nat.le_of_ble_eq_true rfl) dX9_draw_1 ⟨Nat.le_of_ble_eq_true rfl, Nat.le_of_ble_eq_true rfl⟩ (fun u r_1 H locs hw hP hD hS => ?_)
  obtain ⟨g_2, g_3, g_4, g_5, g_6, g_7⟩ := u
  have hkn_8 : isB g_5 := hw.1
  have htb_9 : g_5 = 1 → tabF (bfx g_4) g_6 0 := hw.2
  have hP : va_P D vwCl (CT cy a J (va_up I 10 (I 10)) (va_up (va_up O 5 (some r_1)) 8 (O 8)) R RO ([(r_1, .inr (3, [.ref g_2, .ref g_3, .long g_4, .int g_5])), (g_2, .inl (cy 0, 16640, .inl g_6)), (g_3, .inl (cy 0, 512, .inl g_7))] ++ Y)) H := hP
  have hD : va_D A (CT cy a J (va_up I 10 (I 10)) (va_up (va_up O 5 (some r_1)) 8 (O 8)) R RO ([(r_1, .inr (3, [.ref g_2, .ref g_3, .long g_4, .int g_5])), (g_2, .inl (cy 0, 16640, .inl g_6)), (g_3, .inl (cy 0, 512, .inl g_7))] ++ Y)) := hD
  refine kR_i (As := []) (rest := []) (q0 := 20) ⟨hx, hb, hml, hown, hts⟩ (t_X4_total l D cy a _ J (va_up I 10 (I 10)) (va_up (va_up O 5 (some r_1)) 8 (O 8)) R RO r_1 g_2 g_3 g_4 g_5 g_6 g_7 hkn_8 Y   ) (cwV 0 hts gX9_draw_X4_total rfl rfl rfl (by decide +kernel) ⟨Nat.le_of_ble_eq_true rfl, Nat.le_of_ble_eq_true rfl⟩) hK hN hP hD rfl rfl rfl hl.1 rfl (Nat.le_of_ble_eq_true rfl) dX9_draw_4 ⟨Nat.le_of_ble_eq_true rfl, Nat.le_of_ble_eq_true rfl⟩ ?_
  refine lv_istore_n (lv' := [(2, .int (g_6 (0 : Int32).toNatClampNeg)), (0, .ref (a 0)), (1, .int x0)]) hx hb dX9_draw_7 rfl hl (by decide) rfl (fun ls hl => ?_)
  refine lv_iload_n hx hb dX9_draw_8 rfl (lv_at hl 0 rfl) ?_
  refine lv_if_ne (tgt := 19) hx hb dX9_draw_9 (by decide) (fun c_10 => ?_) (fun c_10 => ?_)
  · refine lv_aload_n hx hb dX9_draw_19 rfl (lv_at hl 1 rfl) ?_
    refine lv_aload_n hx hb dX9_draw_20 rfl (lv_at hl 1 rfl) ?_
    refine lv_iload_n hx hb dX9_draw_21 rfl (lv_at hl 2 rfl) ?_
    refine lv_iload_n hx hb dX9_draw_22 rfl (lv_at hl 0 rfl) ?_
    refine kSa_i (As := [.int x0, .int (g_6 (0 : Int32).toNatClampNeg)]) (rest := [.ref (a 0), .ref (a 0)]) ⟨hx, hb, hml, hown, hts⟩ (t_X9_drawnNumber l x0 (g_6 (0 : Int32).toNatClampNeg) ) (va_cwS 2 hts gX9_draw_X9_drawnNumber rfl rfl rfl (by decide +kernel) ⟨Nat.le_of_ble_eq_true rfl, Nat.le_of_ble_eq_true rfl⟩) rfl hl.1 rfl (Nat.le_of_ble_eq_true rfl) dX9_draw_23 ⟨Nat.le_of_ble_eq_true rfl, Nat.le_of_ble_eq_true rfl⟩ (fun r_11 hr_12 => ?_)
    refine kM_r (As := [.int r_11]) (rest := [.ref (a 0)]) (q0 := 0) ⟨hx, hb, hml, hown, hts⟩ (t_X9_layingOf l D cy a _ J (va_up I 10 (I 10)) (va_up (va_up O 5 (some r_1)) 8 (O 8)) R RO ([(r_1, .inr (3, [.ref g_2, .ref g_3, .long g_4, .int g_5])), (g_2, .inl (cy 0, 16640, .inl g_6)), (g_3, .inl (cy 0, 512, .inl g_7))]) Y r_11  ⟨hM.1, hM.2.1, hM.2.2.1, hM.2.2.2.1, hM.2.2.2.2.1, hM.2.2.2.2.2.1, hM.2.2.2.2.2.2.1, hM.2.2.2.2.2.2.2.1, hRO0, hRO1, hRO2, hRO3⟩ (Or.inr ⟨_, _, _, _, _, _, _, rfl, hkn_8, htb_9, rfl⟩)) (cwV 1 hts gX9_draw_X9_layingOf rfl rfl rfl (by decide +kernel) ⟨Nat.le_of_ble_eq_true rfl, Nat.le_of_ble_eq_true rfl⟩) hK hN hP hD hS hA rfl rfl rfl hl.1 rfl (Nat.le_of_ble_eq_true rfl) dX9_draw_26 ⟨Nat.le_of_ble_eq_true rfl, Nat.le_of_ble_eq_true rfl⟩ (fun u r_13 H locs hw hP hD hS => ?_)
    obtain ⟨g_14, g_15, g_16, g_17⟩ := u
    have hL_18 : LOK cy g_14 g_15 := hw
    have hs_19 : ∀ c, c ∈ Y → c ∈ (Y ++ [laC r_13 r_11 g_16 g_17]) := fun c h => List.mem_append_left _ h
    have hi_20 : chO (Y ++ [laC r_13 r_11 g_16 g_17]) (O 7) := chO_mono hs_19 hM.2.1
    have hi_21 : layO (Y ++ [laC r_13 r_11 g_16 g_17]) (O 8) := layO_mono hs_19 hM.2.2.1
    have hi_22 : ∀ i, i < 20 → pasO (Y ++ [laC r_13 r_11 g_16 g_17]) ((RO 2) i) := pas_mono hs_19 hM.2.2.2.1
    have hmono_23 : ∀ c, c ∈ Y → c ∈ (Y ++ [laC r_13 r_11 g_16 g_17]) := fun c h => hs_19 c ((fun _ h => h) c h)
    have hP : va_P D vwCl (CT cy a J (va_up I 10 (I 10)) (va_up (va_up O 5 g_14) 8 (O 8)) R RO (g_15 ++ (Y ++ [laC r_13 r_11 g_16 g_17]))) H := hP
    have hD : va_D A (CT cy a J (va_up I 10 (I 10)) (va_up (va_up O 5 g_14) 8 (O 8)) R RO (g_15 ++ (Y ++ [laC r_13 r_11 g_16 g_17]))) := hD
    refine va_put (D := D) (ci := 8) (v := .ref r_13) (ty := .object "ParquetLayer$Laying") (C := RX9) (T := TX9) (N := 11) hx hb hts hi9 tyX9 tyX9_ok nmX9 hown hK hP hD hS 0 rfl rfl 8 (by decide) hw0 (fun _ h9 => h9) rfl (by decide +kernel) rfl rfl (Nat.le_of_ble_eq_true rfl) dX9_draw_29 (fun H locs hP hD hS => ?_)
    have hP : va_P D vwCl (CT cy a J (va_up I 10 (I 10)) (va_up (va_up O 5 g_14) 8 (some r_13)) R RO (g_15 ++ (Y ++ [laC r_13 r_11 g_16 g_17]))) H := hP
    have hD : va_D A (CT cy a J (va_up I 10 (I 10)) (va_up (va_up O 5 g_14) 8 (some r_13)) R RO (g_15 ++ (Y ++ [laC r_13 r_11 g_16 g_17]))) := hD
    have hi_24 : layO (Y ++ [laC r_13 r_11 g_16 g_17]) (some r_13) := (Or.inr ⟨_, _, _, _, rfl, mem_last⟩)
    refine lv_aload_n hx hb dX9_draw_32 rfl (lv_at hl 1 rfl) ?_
    refine va_get (D := D) (ci := 8) (v := .ref r_13) (C := RX9) (T := TX9) (N := 11) hx hb hts hi9 hown hK hP 0 rfl rfl 8 (by decide) hw0 (fun _ h9 => h9) rfl dX9_draw_33 ?_
    obtain ⟨k_25, hk_26⟩ : ∃ k : Nat, (CT cy a J (va_up I 10 (I 10)) (va_up (va_up O 5 g_14) 8 (some r_13)) R RO (g_15 ++ (Y ++ [laC r_13 r_11 g_16 g_17])))[k]? = some (r_13, .inr (2, [.int r_11, .long g_16, .long g_17])) := pixT mem_last
    refine va_get (D := D) (ci := 2) (v := .int r_11) (C := RX3) (T := TX3) (N := 3) hx hb hts hi3 hown hK hP k_25 hk_26 rfl 0 (by decide) hw1 (fun _ h9 => h9) rfl dX9_draw_36 ?_
    exact wret_i hx hb hr hlocks (J, (va_up I 10 (I 10)), (va_up (va_up O 5 g_14) 8 (some r_13)), R, RO, g_15, Y ++ [laC r_13 r_11 g_16 g_17]) ⟨(I 10), g_14, (some r_13), g_15, (Y ++ [laC r_13 r_11 g_16 g_17]), ⟨hi_24, hmono_23, hL_18⟩, rfl⟩ hP hD hS dX9_draw_39
  · refine lv_aload_n hx hb dX9_draw_12 rfl (lv_at hl 1 rfl) ?_
    refine lv_ldc (v := (-100006)) hx hb hown hw2 dX9_draw_13 ?_
    refine kM_i (As := [.int (-100006)]) (rest := []) (q0 := 0) ⟨hx, hb, hml, hown, hts⟩ (t_X9_finding l D cy a _ J (va_up I 10 (I 10)) (va_up (va_up O 5 (some r_1)) 8 (O 8)) R RO ([(r_1, .inr (3, [.ref g_2, .ref g_3, .long g_4, .int g_5])), (g_2, .inl (cy 0, 16640, .inl g_6)), (g_3, .inl (cy 0, 512, .inl g_7))]) Y ((-100006) : Int32)   ) (cwV 1 hts gX9_draw_X9_finding rfl rfl rfl (by decide +kernel) ⟨Nat.le_of_ble_eq_true rfl, Nat.le_of_ble_eq_true rfl⟩) hK hN hP hD hS hA rfl rfl rfl hl.1 rfl (Nat.le_of_ble_eq_true rfl) dX9_draw_15 ⟨Nat.le_of_ble_eq_true rfl, Nat.le_of_ble_eq_true rfl⟩ (fun r_27 u H locs hw hP hD hS => ?_)
    obtain ⟨w_28, rfl, rfl⟩ := hw
    have hP : va_P D vwCl (CT cy a J (va_up I 10 w_28) (va_up (va_up O 5 (some r_1)) 8 (O 8)) R RO ([(r_1, .inr (3, [.ref g_2, .ref g_3, .long g_4, .int g_5])), (g_2, .inl (cy 0, 16640, .inl g_6)), (g_3, .inl (cy 0, 512, .inl g_7))] ++ Y)) H := hP
    have hD : va_D A (CT cy a J (va_up I 10 w_28) (va_up (va_up O 5 (some r_1)) 8 (O 8)) R RO ([(r_1, .inr (3, [.ref g_2, .ref g_3, .long g_4, .int g_5])), (g_2, .inl (cy 0, 16640, .inl g_6)), (g_3, .inl (cy 0, 512, .inl g_7))] ++ Y)) := hD
    refine W.widen (k := 7) (n := 34315) (Nat.le_of_ble_eq_true rfl) (Nat.le_of_ble_eq_true rfl) ?_
    exact wret_i hx hb hr hlocks (J, (va_up I 10 w_28), (va_up (va_up O 5 (some r_1)) 8 (O 8)), R, RO, [(r_1, .inr (3, [.ref g_2, .ref g_3, .long g_4, .int g_5])), (g_2, .inl (cy 0, 16640, .inl g_6)), (g_3, .inl (cy 0, 512, .inl g_7))], Y) ⟨w_28, (some r_1), (O 8), ([(r_1, .inr (3, [.ref g_2, .ref g_3, .long g_4, .int g_5])), (g_2, .inl (cy 0, 16640, .inl g_6)), (g_3, .inl (cy 0, 512, .inl g_7))]), Y, ⟨hM.2.2.1, (fun _ h => h), (Or.inr ⟨_, _, _, _, _, _, _, rfl, hkn_8, htb_9, rfl⟩)⟩, rfl⟩ hP hD hS dX9_draw_18
theorem dX9_partner_0 : decode cX9_partner 0 = .ok (.iload_n 1, 1) := by decide +kernel
set_option maxRecDepth 20000 in
theorem ggX9_partner_X1_isField : GoodIn wsX9_partner wsX1_isField := goodIn_r _ [8] rfl (by decide +kernel)
set_option maxRecDepth 20000 in
theorem gX9_partner_X1_isField : GoodIn wsX9_partner (va_wsS RX9 60 yX1_isField wsX1_isField) := goodIn_app (goodIn_r _ [5, 6, 7] rfl (by decide +kernel)) ggX9_partner_X1_isField
theorem dX9_partner_1 : decode cX9_partner 1 = .ok (.invokestatic 60, 3) := by decide +kernel
theorem dX9_partner_4 : decode cX9_partner 4 = .ok (.ifCond .ne 10, 3) := by decide +kernel
theorem dX9_partner_14 : decode cX9_partner 14 = .ok (.aload_n 0, 1) := by decide +kernel
theorem dX9_partner_15 : decode cX9_partner 15 = .ok (.getfield 133, 3) := by decide +kernel
theorem dX9_partner_18 : decode cX9_partner 18 = .ok (.ifnull 14, 3) := by decide +kernel
theorem dX9_partner_32 : decode cX9_partner 32 = .ok (.aload_n 0, 1) := by decide +kernel
theorem dX9_partner_33 : decode cX9_partner 33 = .ok (.ldc 137, 2) := by decide +kernel
set_option maxRecDepth 20000 in
theorem ggX9_partner_X9_finding : GoodIn wsX9_partner wsX9_finding := goodIn_r _ [13, 14, 26, 27, 28, 29, 30, 31, 32, 33, 34, 35, 36] rfl (by decide +kernel)
set_option maxRecDepth 20000 in
theorem gX9_partner_X9_finding : GoodIn wsX9_partner (wsV RX9 44 RX9 yX9_finding wsX9_finding) := goodIn_app (goodIn_r _ [9, 10, 11, 12] rfl (by decide +kernel)) ggX9_partner_X9_finding
theorem dX9_partner_35 : decode cX9_partner 35 = .ok (.invokevirtual 44, 3) := by decide +kernel
theorem dX9_partner_38 : decode cX9_partner 38 = .ok (.ireturn, 1) := by decide +kernel
theorem dX9_partner_21 : decode cX9_partner 21 = .ok (.aload_n 0, 1) := by decide +kernel
theorem dX9_partner_22 : decode cX9_partner 22 = .ok (.getfield 48, 3) := by decide +kernel
theorem dX9_partner_25 : decode cX9_partner 25 = .ok (.iload_n 1, 1) := by decide +kernel
set_option maxRecDepth 20000 in
theorem ggX9_partner_X1_holds : GoodIn wsX9_partner wsX1_holds := goodIn_r _ [17] rfl (by decide +kernel)
set_option maxRecDepth 20000 in
theorem gX9_partner_X1_holds : GoodIn wsX9_partner (va_wsS RX9 66 yX1_holds wsX1_holds) := goodIn_app (goodIn_r _ [15, 16, 7] rfl (by decide +kernel)) ggX9_partner_X1_holds
theorem dX9_partner_26 : decode cX9_partner 26 = .ok (.invokestatic 66, 3) := by decide +kernel
theorem dX9_partner_29 : decode cX9_partner 29 = .ok (.ifCond .ne 10, 3) := by decide +kernel
theorem dX9_partner_39 : decode cX9_partner 39 = .ok (.aload_n 0, 1) := by decide +kernel
theorem dX9_partner_40 : decode cX9_partner 40 = .ok (.getfield 133, 3) := by decide +kernel
theorem dX9_partner_43 : decode cX9_partner 43 = .ok (.iload_n 1, 1) := by decide +kernel
set_option maxRecDepth 20000 in
theorem ggX9_partner_X3_otherField : GoodIn wsX9_partner wsX3_otherField := goodIn_r _ [22, 23, 24, 25, 16, 7, 17, 37, 38, 39] rfl (by decide +kernel)
set_option maxRecDepth 20000 in
theorem gX9_partner_X3_otherField : GoodIn wsX9_partner (wsV RX9 201 RX3 yX3_otherField wsX3_otherField) := goodIn_app (goodIn_r _ [18, 19, 20, 21] rfl (by decide +kernel)) ggX9_partner_X3_otherField
theorem dX9_partner_44 : decode cX9_partner 44 = .ok (.invokevirtual 201, 3) := by decide +kernel
theorem dX9_partner_47 : decode cX9_partner 47 = .ok (.ireturn, 1) := by decide +kernel
theorem dX9_partner_7 : decode cX9_partner 7 = .ok (.aload_n 0, 1) := by decide +kernel
theorem dX9_partner_8 : decode cX9_partner 8 = .ok (.ldc 43, 2) := by decide +kernel
theorem dX9_partner_10 : decode cX9_partner 10 = .ok (.invokevirtual 44, 3) := by decide +kernel
theorem dX9_partner_13 : decode cX9_partner 13 = .ok (.ireturn, 1) := by decide +kernel
set_option maxRecDepth 20000 in
theorem ihX9_partner_9 : ∀ w ∈ u_ws RX9 TX9 11, w ∈ wsX9_partner := fun _ h => List.mem_cons_of_mem _ (List.mem_append_left _ (List.mem_append_right _ h))
set_option maxHeartbeats 4000000 in
set_option maxRecDepth 100000 in
theorem t_X9_partner (l : Launch) (D : va_G) (cy : Nat → ClassId) (a : Nat → Nat) (sz : Nat) (J : Nat → Int64) (I : Nat → Int32) (O : Nat → Option Nat) (R : Nat → Nat → Int32) (RO : Nat → Nat → Option Nat) (LL : va_W) (Y : va_W) (x0 : Int32) (hM : CI a Y I O RO) : Met l yX9_partner wsX9_partner ({ frames := 2, cells := 0, slots := 0, locals := 43 }) (va_Pc [.ref (a 0), .int x0] (PW D cy sz (CT cy a J I O R RO (LL ++ Y)))) (va_Qi (fun r (u : TS) => ∃ (w0 : Int32), ∃ (w1 : Option Nat), ((layO Y w1)) ∧ u = (J, (va_up I 10 w0), (va_up O 8 w1), R, RO, LL, Y)) (BW D (va_A (CT cy a J I O R RO (LL ++ Y)) sz) (CTu cy a)) (va_A (CT cy a J I O R RO (LL ++ Y)) sz)) 0 0 (va_A (CT cy a J I O R RO (LL ++ Y)) sz) := by
  refine Met.ofW (cc := cX9_partner) (maxL := 2) (ret := (some .int)) (by decide) rfl ?_
  intro p e s m args below meth c s₁ B hml hv
  obtain ⟨rfl, rfl, hP, hK, hN, hD0⟩ := hv
  have hx := B.exec
  have hb := B.bytes
  have hr := B.returns
  have hts := atoms_spec (ws := wsX9_partner) B.pre
  have hown : s.vm.findClass RX9 = some m.cls := findClass_of_methodNamed B.named
  have hlocks := B.notSynchronized
  have hw0 := hts (.fieldLink RX9 133 "ParquetLayer" "hand" "LParquetLayer$Laying;") (by decide +kernel)
  have hw1 := hts (.constant RX9 137 (-100006)) (by decide +kernel)
  have hw2 := hts (.fieldLink RX9 48 "ParquetLayer" "fields" "J") (by decide +kernel)
  have hw3 := hts (.constant RX9 43 (-100001)) (by decide +kernel)
  have hi9 := ihX9_partner_9
  have hD := hD0.self (sz := s.heap.size)
  generalize hAe : va_A (CT cy a J I O R RO (LL ++ Y)) s.heap.size = A at hD ⊢
  have hA : ∀ q : Nat, s.heap.size ≤ q → A q := fun q h => by rw [← hAe]; exact Or.inr h
  have hS : va_S A s.heap s.heap [] := va_S.rf
  have hl := lv_entry ([.ref (a 0), .int x0]) (n := 2) (Nat.le_of_ble_eq_true rfl)
  rw [lg_entry_eq]
  generalize (lg_sl ([.ref (a 0), .int x0]) ++ List.replicate (2 - (lg_sl ([.ref (a 0), .int x0])).length) Slot.unset).toArray = ls at hl ⊢
  have hl : lv_has ls 2 [(0, .ref (a 0)), (1, .int x0)] := hl
  have hRO0 := hM.2.2.2.2.2.2.2.2.1
  have hRO1 := hM.2.2.2.2.2.2.2.2.2.1
  have hRO2 := hM.2.2.2.2.2.2.2.2.2.2.1
  have hRO3 := hM.2.2.2.2.2.2.2.2.2.2.2
  have hP : va_P D vwCl (CT cy a J (va_up I 10 (I 10)) (va_up O 8 (O 8)) R RO (LL ++ Y)) s.heap := hP
  have hD : va_D A (CT cy a J (va_up I 10 (I 10)) (va_up O 8 (O 8)) R RO (LL ++ Y)) := hD
  refine lv_iload_n hx hb dX9_partner_0 rfl (lv_at hl 1 rfl) ?_
  refine kS_i (As := [.int x0]) (rest := []) ⟨hx, hb, hml, hown, hts⟩ (c_X1_isField l x0) (va_cwS 1 hts gX9_partner_X1_isField rfl rfl rfl (by decide +kernel) ⟨Nat.le_of_ble_eq_true rfl, Nat.le_of_ble_eq_true rfl⟩) rfl hl.1 rfl (Nat.le_of_ble_eq_true rfl) dX9_partner_1 ⟨Nat.le_of_ble_eq_true rfl, Nat.le_of_ble_eq_true rfl⟩ ?_
  refine lv_if_ne (tgt := 14) hx hb dX9_partner_4 (by decide) (fun c_1 => ?_) (fun c_1 => ?_)
  · replace c_1 := bI_t c_1
    refine lv_aload_n hx hb dX9_partner_14 rfl (lv_at hl 0 rfl) ?_
    refine va_get (D := D) (ci := 8) (v := va_rf (O 8)) (C := RX9) (T := TX9) (N := 11) hx hb hts hi9 hown hK hP 0 rfl rfl 8 (by decide) hw0 (fun _ h9 => h9) rfl dX9_partner_15 ?_
    refine lv_ifnullO (tgt := 32) hx hb dX9_partner_18 (by decide) (fun c_2 => ?_) (fun c_2 => ?_)
    · rw [c_2] at hP hD
      have hi_3 : layO Y none := by rw [← c_2]; exact hM.2.2.1
      refine lv_aload_n hx hb dX9_partner_32 rfl (lv_at hl 0 rfl) ?_
      refine lv_ldc (v := (-100006)) hx hb hown hw1 dX9_partner_33 ?_
      refine kM_i (As := [.int (-100006)]) (rest := []) (q0 := 0) ⟨hx, hb, hml, hown, hts⟩ (t_X9_finding l D cy a _ J (va_up I 10 (I 10)) (va_up O 8 none) R RO LL Y ((-100006) : Int32)   ) (cwV 1 hts gX9_partner_X9_finding rfl rfl rfl (by decide +kernel) ⟨Nat.le_of_ble_eq_true rfl, Nat.le_of_ble_eq_true rfl⟩) hK hN hP hD hS hA rfl rfl rfl hl.1 rfl (Nat.le_of_ble_eq_true rfl) dX9_partner_35 ⟨Nat.le_of_ble_eq_true rfl, Nat.le_of_ble_eq_true rfl⟩ (fun r_4 u H locs hw hP hD hS => ?_)
      obtain ⟨w_5, rfl, rfl⟩ := hw
      have hP : va_P D vwCl (CT cy a J (va_up I 10 w_5) (va_up O 8 none) R RO (LL ++ Y)) H := hP
      have hD : va_D A (CT cy a J (va_up I 10 w_5) (va_up O 8 none) R RO (LL ++ Y)) := hD
      exact wret_i hx hb hr hlocks (J, (va_up I 10 w_5), (va_up O 8 none), R, RO, LL, Y) ⟨w_5, none, hi_3, rfl⟩ hP hD hS dX9_partner_38
    · obtain ⟨b_6, v_9, v_10, v_11, e_8, hm_7⟩ := lay_some hM.2.2.1 c_2
      rw [e_8] at hP hD
      have hi_12 : layO Y (some b_6) := by rw [← e_8]; exact hM.2.2.1
      refine lv_aload_n hx hb dX9_partner_21 rfl (lv_at hl 0 rfl) ?_
      refine va_get (D := D) (ci := 8) (v := .long (J 6)) (C := RX9) (T := TX9) (N := 11) hx hb hts hi9 hown hK hP 0 rfl rfl 6 (by decide) hw2 (fun _ h9 => h9) rfl dX9_partner_22 ?_
      refine lv_iload_n hx hb dX9_partner_25 rfl (lv_at hl 1 rfl) ?_
      refine kS_i (As := [.long (J 6), .int x0]) (rest := []) ⟨hx, hb, hml, hown, hts⟩ (c_X1_holds l (J 6) x0) (va_cwS 2 hts gX9_partner_X1_holds rfl rfl rfl (by decide +kernel) ⟨Nat.le_of_ble_eq_true rfl, Nat.le_of_ble_eq_true rfl⟩) rfl hl.1 rfl (Nat.le_of_ble_eq_true rfl) dX9_partner_26 ⟨Nat.le_of_ble_eq_true rfl, Nat.le_of_ble_eq_true rfl⟩ ?_
      refine lv_if_ne (tgt := 39) hx hb dX9_partner_29 (by decide) (fun c_13 => ?_) (fun c_13 => ?_)
      · replace c_13 := bI_t c_13
        refine lv_aload_n hx hb dX9_partner_39 rfl (lv_at hl 0 rfl) ?_
        refine va_get (D := D) (ci := 8) (v := .ref b_6) (C := RX9) (T := TX9) (N := 11) hx hb hts hi9 hown hK hP 0 rfl rfl 8 (by decide) hw0 (fun _ h9 => h9) rfl dX9_partner_40 ?_
        refine lv_iload_n hx hb dX9_partner_43 rfl (lv_at hl 1 rfl) ?_
        obtain ⟨k_14, hk_15⟩ : ∃ k : Nat, (CT cy a J (va_up I 10 (I 10)) (va_up O 8 (some b_6)) R RO (LL ++ Y))[k]? = some (b_6, .inr (2, [.int v_9, .long v_10, .long v_11])) := pixT hm_7
        refine kRa_i (As := [.int x0]) (rest := []) (q0 := k_14) ⟨hx, hb, hml, hown, hts⟩ (t_X3_otherField l D cy _ (CT cy a J (va_up I 10 (I 10)) (va_up O 8 (some b_6)) R RO (LL ++ Y)) k_14 b_6 v_9 v_10 v_11 hk_15 x0) (cwV 1 hts gX9_partner_X3_otherField rfl rfl rfl (by decide +kernel) ⟨Nat.le_of_ble_eq_true rfl, Nat.le_of_ble_eq_true rfl⟩) hK hN hP hD hk_15 rfl rfl hl.1 rfl (Nat.le_of_ble_eq_true rfl) dX9_partner_44 ⟨Nat.le_of_ble_eq_true rfl, Nat.le_of_ble_eq_true rfl⟩ (fun r_16 hr_17 => ?_)
        exact wret_i hx hb hr hlocks (J, (va_up I 10 (I 10)), (va_up O 8 (some b_6)), R, RO, LL, Y) ⟨(I 10), (some b_6), hi_12, rfl⟩ hP hD hS dX9_partner_47
      · replace c_13 := bI_f c_13
        refine lv_aload_n hx hb dX9_partner_32 rfl (lv_at hl 0 rfl) ?_
        refine lv_ldc (v := (-100006)) hx hb hown hw1 dX9_partner_33 ?_
        refine kM_i (As := [.int (-100006)]) (rest := []) (q0 := 0) ⟨hx, hb, hml, hown, hts⟩ (t_X9_finding l D cy a _ J (va_up I 10 (I 10)) (va_up O 8 (some b_6)) R RO LL Y ((-100006) : Int32)   ) (cwV 1 hts gX9_partner_X9_finding rfl rfl rfl (by decide +kernel) ⟨Nat.le_of_ble_eq_true rfl, Nat.le_of_ble_eq_true rfl⟩) hK hN hP hD hS hA rfl rfl rfl hl.1 rfl (Nat.le_of_ble_eq_true rfl) dX9_partner_35 ⟨Nat.le_of_ble_eq_true rfl, Nat.le_of_ble_eq_true rfl⟩ (fun r_18 u H locs hw hP hD hS => ?_)
        obtain ⟨w_19, rfl, rfl⟩ := hw
        have hP : va_P D vwCl (CT cy a J (va_up I 10 w_19) (va_up O 8 (some b_6)) R RO (LL ++ Y)) H := hP
        have hD : va_D A (CT cy a J (va_up I 10 w_19) (va_up O 8 (some b_6)) R RO (LL ++ Y)) := hD
        exact wret_i hx hb hr hlocks (J, (va_up I 10 w_19), (va_up O 8 (some b_6)), R, RO, LL, Y) ⟨w_19, (some b_6), hi_12, rfl⟩ hP hD hS dX9_partner_38
  · replace c_1 := bI_f c_1
    refine lv_aload_n hx hb dX9_partner_7 rfl (lv_at hl 0 rfl) ?_
    refine lv_ldc (v := (-100001)) hx hb hown hw3 dX9_partner_8 ?_
    refine kM_i (As := [.int (-100001)]) (rest := []) (q0 := 0) ⟨hx, hb, hml, hown, hts⟩ (t_X9_finding l D cy a _ J (va_up I 10 (I 10)) (va_up O 8 (O 8)) R RO LL Y ((-100001) : Int32)   ) (cwV 1 hts gX9_partner_X9_finding rfl rfl rfl (by decide +kernel) ⟨Nat.le_of_ble_eq_true rfl, Nat.le_of_ble_eq_true rfl⟩) hK hN hP hD hS hA rfl rfl rfl hl.1 rfl (Nat.le_of_ble_eq_true rfl) dX9_partner_10 ⟨Nat.le_of_ble_eq_true rfl, Nat.le_of_ble_eq_true rfl⟩ (fun r_20 u H locs hw hP hD hS => ?_)
    obtain ⟨w_21, rfl, rfl⟩ := hw
    have hP : va_P D vwCl (CT cy a J (va_up I 10 w_21) (va_up O 8 (O 8)) R RO (LL ++ Y)) H := hP
    have hD : va_D A (CT cy a J (va_up I 10 w_21) (va_up O 8 (O 8)) R RO (LL ++ Y)) := hD
    exact wret_i hx hb hr hlocks (J, (va_up I 10 w_21), (va_up O 8 (O 8)), R, RO, LL, Y) ⟨w_21, (O 8), hM.2.2.1, rfl⟩ hP hD hS dX9_partner_13
theorem dX9_turns_0 : decode cX9_turns 0 = .ok (.aload_n 0, 1) := by decide +kernel
theorem dX9_turns_1 : decode cX9_turns 1 = .ok (.getfield 133, 3) := by decide +kernel
theorem dX9_turns_4 : decode cX9_turns 4 = .ok (.ifnonnull 10, 3) := by decide +kernel
theorem dX9_turns_14 : decode cX9_turns 14 = .ok (.aload_n 0, 1) := by decide +kernel
theorem dX9_turns_15 : decode cX9_turns 15 = .ok (.getfield 31, 3) := by decide +kernel
theorem dX9_turns_18 : decode cX9_turns 18 = .ok (.aload_n 0, 1) := by decide +kernel
theorem dX9_turns_19 : decode cX9_turns 19 = .ok (.getfield 133, 3) := by decide +kernel
theorem dX9_turns_22 : decode cX9_turns 22 = .ok (.aload_n 0, 1) := by decide +kernel
set_option maxRecDepth 20000 in
theorem ggX9_turns_X9_gluedFields : GoodIn wsX9_turns wsX9_gluedFields := goodIn_r _ [13, 14, 15, 16, 17, 18, 19, 20, 21, 22, 23, 7, 24, 46, 47, 48, 49, 50, 51, 52, 53, 54, 55, 56, 57, 58, 59, 60, 61, 62, 63] rfl (by decide +kernel)
set_option maxRecDepth 20000 in
theorem gX9_turns_X9_gluedFields : GoodIn wsX9_turns (wsV RX9 119 RX9 yX9_gluedFields wsX9_gluedFields) := goodIn_app (goodIn_r _ [10, 11, 12, 7] rfl (by decide +kernel)) ggX9_turns_X9_gluedFields
theorem dX9_turns_23 : decode cX9_turns 23 = .ok (.invokevirtual 119, 3) := by decide +kernel
set_option maxRecDepth 20000 in
theorem ggX9_turns_X8_start : GoodIn wsX9_turns wsX8_start := goodIn_r _ [29, 30, 31, 32, 33, 34, 64, 65, 66, 67, 68] rfl (by decide +kernel)
set_option maxRecDepth 20000 in
theorem gX9_turns_X8_start : GoodIn wsX9_turns (wsV RX9 204 RX8 yX8_start wsX8_start) := goodIn_app (goodIn_r _ [25, 26, 27, 28] rfl (by decide +kernel)) ggX9_turns_X8_start
theorem dX9_turns_26 : decode cX9_turns 26 = .ok (.invokevirtual 204, 3) := by decide +kernel
theorem dX9_turns_29 : decode cX9_turns 29 = .ok (.aload_n 0, 1) := by decide +kernel
theorem dX9_turns_30 : decode cX9_turns 30 = .ok (.getfield 31, 3) := by decide +kernel
set_option maxRecDepth 20000 in
theorem ggX9_turns_X8_possible : GoodIn wsX9_turns wsX8_possible := goodIn_r _ [38, 39, 40, 41, 28, 42, 32, 34, 43, 44, 45, 67, 68] rfl (by decide +kernel)
set_option maxRecDepth 20000 in
theorem gX9_turns_X8_possible : GoodIn wsX9_turns (wsV RX9 208 RX8 yX8_possible wsX8_possible) := goodIn_app (goodIn_r _ [35, 36, 37, 28] rfl (by decide +kernel)) ggX9_turns_X8_possible
theorem dX9_turns_33 : decode cX9_turns 33 = .ok (.invokevirtual 208, 3) := by decide +kernel
theorem dX9_turns_36 : decode cX9_turns 36 = .ok (.ireturn, 1) := by decide +kernel
theorem dX9_turns_7 : decode cX9_turns 7 = .ok (.aload_n 0, 1) := by decide +kernel
theorem dX9_turns_8 : decode cX9_turns 8 = .ok (.ldc 137, 2) := by decide +kernel
set_option maxRecDepth 20000 in
theorem ggX9_turns_X9_finding : GoodIn wsX9_turns wsX9_finding := goodIn_r _ [8, 9, 46, 47, 48, 49, 50, 51, 52, 53, 54, 55, 56] rfl (by decide +kernel)
set_option maxRecDepth 20000 in
theorem gX9_turns_X9_finding : GoodIn wsX9_turns (wsV RX9 44 RX9 yX9_finding wsX9_finding) := goodIn_app (goodIn_r _ [4, 5, 6, 7] rfl (by decide +kernel)) ggX9_turns_X9_finding
theorem dX9_turns_10 : decode cX9_turns 10 = .ok (.invokevirtual 44, 3) := by decide +kernel
theorem dX9_turns_13 : decode cX9_turns 13 = .ok (.ireturn, 1) := by decide +kernel
set_option maxRecDepth 20000 in
theorem ihX9_turns_9 : ∀ w ∈ u_ws RX9 TX9 11, w ∈ wsX9_turns := fun _ h => List.mem_cons_of_mem _ (List.mem_append_left _ (List.mem_append_left _ (List.mem_append_left _ (List.mem_append_right _ h))))
set_option maxHeartbeats 4000000 in
set_option maxRecDepth 100000 in
theorem t_X9_turns (l : Launch) (D : va_G) (cy : Nat → ClassId) (a : Nat → Nat) (sz : Nat) (J : Nat → Int64) (I : Nat → Int32) (O : Nat → Option Nat) (R : Nat → Nat → Int32) (RO : Nat → Nat → Option Nat) (LL : va_W) (Y : va_W)  (hM : CI a Y I O RO) : Met l yX9_turns wsX9_turns ({ frames := 3, cells := 0, slots := 0, locals := 67 }) (va_Pc [.ref (a 0)] (PW D cy sz (CT cy a J I O R RO (LL ++ Y)))) (va_Qi (fun r (u : TS) => ∃ (w0 : Int64), ∃ (w1 : Int64), ∃ (w2 : Int32), ∃ (w3 : Option Nat), ((layO Y w3)) ∧ u = ((va_up (va_up J 224 w0) 225 w1), (va_up I 10 w2), (va_up O 8 w3), R, RO, LL, Y)) (BW D (va_A (CT cy a J I O R RO (LL ++ Y)) sz) (CTu cy a)) (va_A (CT cy a J I O R RO (LL ++ Y)) sz)) 0 0 (va_A (CT cy a J I O R RO (LL ++ Y)) sz) := by
  refine Met.ofW (cc := cX9_turns) (maxL := 1) (ret := (some .int)) (by decide) rfl ?_
  intro p e s m args below meth c s₁ B hml hv
  obtain ⟨rfl, rfl, hP, hK, hN, hD0⟩ := hv
  have hx := B.exec
  have hb := B.bytes
  have hr := B.returns
  have hts := atoms_spec (ws := wsX9_turns) B.pre
  have hown : s.vm.findClass RX9 = some m.cls := findClass_of_methodNamed B.named
  have hlocks := B.notSynchronized
  have hw0 := hts (.fieldLink RX9 133 "ParquetLayer" "hand" "LParquetLayer$Laying;") (by decide +kernel)
  have hw1 := hts (.fieldLink RX9 31 "ParquetLayer" "turner" "LParquetLayer$Turner;") (by decide +kernel)
  have hw2 := hts (.constant RX9 137 (-100006)) (by decide +kernel)
  have hi9 := ihX9_turns_9
  have hD := hD0.self (sz := s.heap.size)
  generalize hAe : va_A (CT cy a J I O R RO (LL ++ Y)) s.heap.size = A at hD ⊢
  have hA : ∀ q : Nat, s.heap.size ≤ q → A q := fun q h => by rw [← hAe]; exact Or.inr h
  have hS : va_S A s.heap s.heap [] := va_S.rf
  have hl := lv_entry ([.ref (a 0)]) (n := 1) (Nat.le_of_ble_eq_true rfl)
  rw [lg_entry_eq]
  generalize (lg_sl ([.ref (a 0)]) ++ List.replicate (1 - (lg_sl ([.ref (a 0)])).length) Slot.unset).toArray = ls at hl ⊢
  have hl : lv_has ls 1 [(0, .ref (a 0))] := hl
  have hRO0 := hM.2.2.2.2.2.2.2.2.1
  have hRO1 := hM.2.2.2.2.2.2.2.2.2.1
  have hRO2 := hM.2.2.2.2.2.2.2.2.2.2.1
  have hRO3 := hM.2.2.2.2.2.2.2.2.2.2.2
  have hP : va_P D vwCl (CT cy a (va_up (va_up J 224 (J 224)) 225 (J 225)) (va_up I 10 (I 10)) (va_up O 8 (O 8)) R RO (LL ++ Y)) s.heap := hP
  have hD : va_D A (CT cy a (va_up (va_up J 224 (J 224)) 225 (J 225)) (va_up I 10 (I 10)) (va_up O 8 (O 8)) R RO (LL ++ Y)) := hD
  refine lv_aload_n hx hb dX9_turns_0 rfl (lv_at hl 0 rfl) ?_
  refine va_get (D := D) (ci := 8) (v := va_rf (O 8)) (C := RX9) (T := TX9) (N := 11) hx hb hts hi9 hown hK hP 0 rfl rfl 8 (by decide) hw0 (fun _ h9 => h9) rfl dX9_turns_1 ?_
  refine lv_ifnonnullO (tgt := 14) hx hb dX9_turns_4 (by decide) (fun c_1 => ?_) (fun c_1 => ?_)
  · obtain ⟨b_2, v_5, v_6, v_7, e_4, hm_3⟩ := lay_some hM.2.2.1 c_1
    rw [e_4] at hP hD
    have hi_8 : layO Y (some b_2) := by rw [← e_4]; exact hM.2.2.1
    refine lv_aload_n hx hb dX9_turns_14 rfl (lv_at hl 0 rfl) ?_
    refine va_get (D := D) (ci := 8) (v := .ref (a 7)) (C := RX9) (T := TX9) (N := 11) hx hb hts hi9 hown hK hP 0 rfl rfl 3 (by decide) hw1 (fun _ h9 => h9) rfl dX9_turns_15 ?_
    refine lv_aload_n hx hb dX9_turns_18 rfl (lv_at hl 0 rfl) ?_
    refine va_get (D := D) (ci := 8) (v := .ref b_2) (C := RX9) (T := TX9) (N := 11) hx hb hts hi9 hown hK hP 0 rfl rfl 8 (by decide) hw0 (fun _ h9 => h9) rfl dX9_turns_19 ?_
    refine lv_aload_n hx hb dX9_turns_22 rfl (lv_at hl 0 rfl) ?_
    refine kRa_l (As := []) (rest := [.ref b_2, .ref (a 7)]) (q0 := 0) ⟨hx, hb, hml, hown, hts⟩ (t_X9_gluedFields l D cy a _ (va_up (va_up J 224 (J 224)) 225 (J 225)) (va_up I 10 (I 10)) (va_up O 8 (some b_2)) R RO LL Y   ⟨hM.1, hM.2.1, hi_8, hM.2.2.2.1, hM.2.2.2.2.1, hM.2.2.2.2.2.1, hM.2.2.2.2.2.2.1, hM.2.2.2.2.2.2.2.1, hRO0, hRO1, hRO2, hRO3⟩) (cwV 0 hts gX9_turns_X9_gluedFields rfl rfl rfl (by decide +kernel) ⟨Nat.le_of_ble_eq_true rfl, Nat.le_of_ble_eq_true rfl⟩) hK hN hP hD rfl rfl rfl hl.1 rfl (Nat.le_of_ble_eq_true rfl) dX9_turns_23 ⟨Nat.le_of_ble_eq_true rfl, Nat.le_of_ble_eq_true rfl⟩ (fun r_9 hr_10 => ?_)
    refine kM_v (As := [.ref b_2, .long r_9]) (rest := []) (q0 := 7) ⟨hx, hb, hml, hown, hts⟩ (t_X8_start l D cy a _ (va_up (va_up J 224 (J 224)) 225 (J 225)) (va_up I 10 (I 10)) (va_up O 8 (some b_2)) R RO LL Y b_2 v_5 v_6 v_7 hm_3 r_9   ) (cwV 2 hts gX9_turns_X8_start rfl rfl rfl (by decide +kernel) ⟨Nat.le_of_ble_eq_true rfl, Nat.le_of_ble_eq_true rfl⟩) hK hN hP hD hS hA rfl rfl rfl hl.1 rfl (Nat.le_of_ble_eq_true rfl) dX9_turns_26 ⟨Nat.le_of_ble_eq_true rfl, Nat.le_of_ble_eq_true rfl⟩ (fun u H locs hw hP hD hS => ?_)
    obtain ⟨w_12, w_13, -, rfl⟩ := hw
    have hP : va_P D vwCl (CT cy a (va_up (va_up J 224 w_12) 225 w_13) (va_up I 10 (I 10)) (va_up O 8 (some b_2)) R RO (LL ++ Y)) H := hP
    have hD : va_D A (CT cy a (va_up (va_up J 224 w_12) 225 w_13) (va_up I 10 (I 10)) (va_up O 8 (some b_2)) R RO (LL ++ Y)) := hD
    refine lv_aload_n hx hb dX9_turns_29 rfl (lv_at hl 0 rfl) ?_
    refine va_get (D := D) (ci := 8) (v := .ref (a 7)) (C := RX9) (T := TX9) (N := 11) hx hb hts hi9 hown hK hP 0 rfl rfl 3 (by decide) hw1 (fun _ h9 => h9) rfl dX9_turns_30 ?_
    refine kRa_i (As := []) (rest := []) (q0 := 7) ⟨hx, hb, hml, hown, hts⟩ (t_X8_possible l D cy a _ (va_up (va_up J 224 w_12) 225 w_13) (va_up I 10 (I 10)) (va_up O 8 (some b_2)) R RO LL Y   ) (cwV 0 hts gX9_turns_X8_possible rfl rfl rfl (by decide +kernel) ⟨Nat.le_of_ble_eq_true rfl, Nat.le_of_ble_eq_true rfl⟩) hK hN hP hD rfl rfl rfl hl.1 rfl (Nat.le_of_ble_eq_true rfl) dX9_turns_33 ⟨Nat.le_of_ble_eq_true rfl, Nat.le_of_ble_eq_true rfl⟩ (fun r_14 hr_15 => ?_)
    exact wret_i hx hb hr hlocks ((va_up (va_up J 224 w_12) 225 w_13), (va_up I 10 (I 10)), (va_up O 8 (some b_2)), R, RO, LL, Y) ⟨w_12, w_13, (I 10), (some b_2), hi_8, rfl⟩ hP hD hS dX9_turns_36
  · rw [c_1] at hP hD
    have hi_16 : layO Y none := by rw [← c_1]; exact hM.2.2.1
    refine lv_aload_n hx hb dX9_turns_7 rfl (lv_at hl 0 rfl) ?_
    refine lv_ldc (v := (-100006)) hx hb hown hw2 dX9_turns_8 ?_
    refine kM_i (As := [.int (-100006)]) (rest := []) (q0 := 0) ⟨hx, hb, hml, hown, hts⟩ (t_X9_finding l D cy a _ (va_up (va_up J 224 (J 224)) 225 (J 225)) (va_up I 10 (I 10)) (va_up O 8 none) R RO LL Y ((-100006) : Int32)   ) (cwV 1 hts gX9_turns_X9_finding rfl rfl rfl (by decide +kernel) ⟨Nat.le_of_ble_eq_true rfl, Nat.le_of_ble_eq_true rfl⟩) hK hN hP hD hS hA rfl rfl rfl hl.1 rfl (Nat.le_of_ble_eq_true rfl) dX9_turns_10 ⟨Nat.le_of_ble_eq_true rfl, Nat.le_of_ble_eq_true rfl⟩ (fun r_17 u H locs hw hP hD hS => ?_)
    obtain ⟨w_18, rfl, rfl⟩ := hw
    have hP : va_P D vwCl (CT cy a (va_up (va_up J 224 (J 224)) 225 (J 225)) (va_up I 10 w_18) (va_up O 8 none) R RO (LL ++ Y)) H := hP
    have hD : va_D A (CT cy a (va_up (va_up J 224 (J 224)) 225 (J 225)) (va_up I 10 w_18) (va_up O 8 none) R RO (LL ++ Y)) := hD
    exact wret_i hx hb hr hlocks ((va_up (va_up J 224 (J 224)) 225 (J 225)), (va_up I 10 w_18), (va_up O 8 none), R, RO, LL, Y) ⟨(J 224), (J 225), w_18, none, hi_16, rfl⟩ hP hD hS dX9_turns_13
theorem dX9_turn_0 : decode cX9_turn 0 = .ok (.iload_n 1, 1) := by decide +kernel
set_option maxRecDepth 20000 in
theorem ggX9_turn_X8_isCorner : GoodIn wsX9_turn wsX8_isCorner := goodIn_r _ [10] rfl (by decide +kernel)
set_option maxRecDepth 20000 in
theorem gX9_turn_X8_isCorner : GoodIn wsX9_turn (va_wsS RX9 211 yX8_isCorner wsX8_isCorner) := goodIn_app (goodIn_r _ [7, 8, 9] rfl (by decide +kernel)) ggX9_turn_X8_isCorner
theorem dX9_turn_1 : decode cX9_turn 1 = .ok (.invokestatic 211, 3) := by decide +kernel
theorem dX9_turn_4 : decode cX9_turn 4 = .ok (.ifCond .ne 10, 3) := by decide +kernel
theorem dX9_turn_14 : decode cX9_turn 14 = .ok (.aload_n 0, 1) := by decide +kernel
theorem dX9_turn_15 : decode cX9_turn 15 = .ok (.getfield 133, 3) := by decide +kernel
theorem dX9_turn_18 : decode cX9_turn 18 = .ok (.ifnonnull 10, 3) := by decide +kernel
theorem dX9_turn_28 : decode cX9_turn 28 = .ok (.aload_n 0, 1) := by decide +kernel
theorem dX9_turn_29 : decode cX9_turn 29 = .ok (.getfield 31, 3) := by decide +kernel
theorem dX9_turn_32 : decode cX9_turn 32 = .ok (.aload_n 0, 1) := by decide +kernel
theorem dX9_turn_33 : decode cX9_turn 33 = .ok (.getfield 133, 3) := by decide +kernel
theorem dX9_turn_36 : decode cX9_turn 36 = .ok (.aload_n 0, 1) := by decide +kernel
set_option maxRecDepth 20000 in
theorem ggX9_turn_X9_gluedFields : GoodIn wsX9_turn wsX9_gluedFields := goodIn_r _ [20, 21, 22, 23, 24, 25, 26, 27, 28, 29, 30, 14, 31, 129, 130, 131, 132, 133, 134, 135, 136, 137, 138, 139, 145, 146, 147, 148, 149, 150, 151] rfl (by decide +kernel)
set_option maxRecDepth 20000 in
theorem gX9_turn_X9_gluedFields : GoodIn wsX9_turn (wsV RX9 119 RX9 yX9_gluedFields wsX9_gluedFields) := goodIn_app (goodIn_r _ [17, 18, 19, 14] rfl (by decide +kernel)) ggX9_turn_X9_gluedFields
theorem dX9_turn_37 : decode cX9_turn 37 = .ok (.invokevirtual 119, 3) := by decide +kernel
set_option maxRecDepth 20000 in
theorem ggX9_turn_X8_start : GoodIn wsX9_turn wsX8_start := goodIn_r _ [35, 36, 37, 38, 39, 40, 142, 143, 144, 140, 141] rfl (by decide +kernel)
set_option maxRecDepth 20000 in
theorem gX9_turn_X8_start : GoodIn wsX9_turn (wsV RX9 204 RX8 yX8_start wsX8_start) := goodIn_app (goodIn_r _ [32, 33, 34, 9] rfl (by decide +kernel)) ggX9_turn_X8_start
theorem dX9_turn_40 : decode cX9_turn 40 = .ok (.invokevirtual 204, 3) := by decide +kernel
theorem dX9_turn_43 : decode cX9_turn 43 = .ok (.aload_n 0, 1) := by decide +kernel
theorem dX9_turn_44 : decode cX9_turn 44 = .ok (.getfield 31, 3) := by decide +kernel
theorem dX9_turn_47 : decode cX9_turn 47 = .ok (.iload_n 1, 1) := by decide +kernel
set_option maxRecDepth 20000 in
theorem ggX9_turn_X8_lying : GoodIn wsX9_turn wsX8_lying := goodIn_r _ [44, 38, 40, 45, 8, 9, 10, 140, 141] rfl (by decide +kernel)
set_option maxRecDepth 20000 in
theorem gX9_turn_X8_lying : GoodIn wsX9_turn (wsV RX9 214 RX8 yX8_lying wsX8_lying) := goodIn_app (goodIn_r _ [41, 42, 43, 9] rfl (by decide +kernel)) ggX9_turn_X8_lying
theorem dX9_turn_48 : decode cX9_turn 48 = .ok (.invokevirtual 214, 3) := by decide +kernel
theorem dX9_turn_51 : decode cX9_turn 51 = .ok (.ifCond .ne 10, 3) := by decide +kernel
theorem dX9_turn_61 : decode cX9_turn 61 = .ok (.aload_n 0, 1) := by decide +kernel
theorem dX9_turn_62 : decode cX9_turn 62 = .ok (.getfield 31, 3) := by decide +kernel
theorem dX9_turn_65 : decode cX9_turn 65 = .ok (.iload_n 1, 1) := by decide +kernel
set_option maxRecDepth 20000 in
theorem ggX9_turn_X8_flip : GoodIn wsX9_turn wsX8_flip := goodIn_r _ [49, 38, 40, 140, 141] rfl (by decide +kernel)
set_option maxRecDepth 20000 in
theorem gX9_turn_X8_flip : GoodIn wsX9_turn (wsV RX9 217 RX8 yX8_flip wsX8_flip) := goodIn_app (goodIn_r _ [46, 47, 48, 9] rfl (by decide +kernel)) ggX9_turn_X8_flip
theorem dX9_turn_66 : decode cX9_turn 66 = .ok (.invokevirtual 217, 3) := by decide +kernel
theorem dX9_turn_69 : decode cX9_turn 69 = .ok (.aload_n 0, 1) := by decide +kernel
theorem dX9_turn_70 : decode cX9_turn 70 = .ok (.aload_n 0, 1) := by decide +kernel
theorem dX9_turn_71 : decode cX9_turn 71 = .ok (.aload_n 0, 1) := by decide +kernel
set_option maxRecDepth 20000 in
theorem ggX9_turn_X9_knownLayings : GoodIn wsX9_turn wsX9_knownLayings := goodIn_r _ [53, 54, 55, 56, 57, 58, 59, 60, 61, 62, 63, 64, 65, 66, 67, 17, 18, 19, 14, 20, 21, 22, 23, 24, 25, 26, 27, 28, 29, 30, 31, 68, 69, 70, 71, 72, 73, 74, 75, 76, 77, 78, 79, 80, 81, 82, 83, 84, 85, 86, 129, 130, 131, 132, 133, 134, 135, 136, 137, 138, 139, 152, 153, 154, 155, 145, 146, 147, 148, 149, 150, 151] rfl (by decide +kernel)
set_option maxRecDepth 20000 in
theorem gX9_turn_X9_knownLayings : GoodIn wsX9_turn (wsV RX9 170 RX9 yX9_knownLayings wsX9_knownLayings) := goodIn_app (goodIn_r _ [50, 51, 52, 14] rfl (by decide +kernel)) ggX9_turn_X9_knownLayings
theorem dX9_turn_72 : decode cX9_turn 72 = .ok (.invokevirtual 170, 3) := by decide +kernel
theorem dX9_turn_75 : decode cX9_turn 75 = .ok (.aload_n 0, 1) := by decide +kernel
theorem dX9_turn_76 : decode cX9_turn 76 = .ok (.getfield 31, 3) := by decide +kernel
theorem dX9_turn_79 : decode cX9_turn 79 = .ok (.getfield 221, 3) := by decide +kernel
set_option maxRecDepth 20000 in
theorem ggX9_turn_X4_numberOf : GoodIn wsX9_turn wsX4_numberOf := goodIn_r _ [90, 91, 92, 93, 57, 94, 73, 80, 81, 82, 83, 95, 96, 97, 98, 66, 77, 78, 79, 152, 153, 154, 155] rfl (by decide +kernel)
set_option maxRecDepth 20000 in
theorem gX9_turn_X4_numberOf : GoodIn wsX9_turn (wsV RX9 223 RX4 yX4_numberOf wsX4_numberOf) := goodIn_app (goodIn_r _ [87, 88, 89, 57] rfl (by decide +kernel)) ggX9_turn_X4_numberOf
theorem dX9_turn_82 : decode cX9_turn 82 = .ok (.invokevirtual 223, 3) := by decide +kernel
set_option maxRecDepth 20000 in
theorem ggX9_turn_X9_layingOf : GoodIn wsX9_turn wsX9_layingOf := goodIn_r _ [102, 103, 104, 105, 50, 51, 52, 14, 53, 54, 55, 56, 57, 58, 59, 60, 61, 62, 63, 64, 65, 66, 67, 17, 18, 19, 20, 21, 22, 23, 24, 25, 26, 27, 28, 29, 30, 31, 68, 69, 70, 71, 72, 73, 74, 75, 76, 77, 78, 79, 80, 81, 82, 83, 84, 85, 86, 106, 107, 108, 109, 91, 92, 93, 94, 95, 96, 97, 98, 110, 111, 112, 113, 114, 115, 116, 117, 118, 119, 120, 121, 122, 123, 124, 125, 126, 127, 128, 142, 143, 144, 129, 130, 131, 132, 133, 134, 135, 136, 137, 138, 139, 152, 153, 154, 155, 145, 146, 147, 148, 149, 150, 151] rfl (by decide +kernel)
set_option maxRecDepth 20000 in
theorem gX9_turn_X9_layingOf : GoodIn wsX9_turn (wsV RX9 192 RX9 yX9_layingOf wsX9_layingOf) := goodIn_app (goodIn_r _ [99, 100, 101, 14] rfl (by decide +kernel)) ggX9_turn_X9_layingOf
theorem dX9_turn_85 : decode cX9_turn 85 = .ok (.invokevirtual 192, 3) := by decide +kernel
theorem dX9_turn_88 : decode cX9_turn 88 = .ok (.putfield 133, 3) := by decide +kernel
theorem dX9_turn_91 : decode cX9_turn 91 = .ok (.aload_n 0, 1) := by decide +kernel
theorem dX9_turn_92 : decode cX9_turn 92 = .ok (.getfield 133, 3) := by decide +kernel
theorem dX9_turn_95 : decode cX9_turn 95 = .ok (.getfield 196, 3) := by decide +kernel
theorem dX9_turn_98 : decode cX9_turn 98 = .ok (.ireturn, 1) := by decide +kernel
theorem dX9_turn_54 : decode cX9_turn 54 = .ok (.aload_n 0, 1) := by decide +kernel
theorem dX9_turn_55 : decode cX9_turn 55 = .ok (.ldc 137, 2) := by decide +kernel
set_option maxRecDepth 20000 in
theorem ggX9_turn_X9_finding : GoodIn wsX9_turn wsX9_finding := goodIn_r _ [15, 16, 129, 130, 131, 132, 133, 134, 135, 136, 137, 138, 139] rfl (by decide +kernel)
set_option maxRecDepth 20000 in
theorem gX9_turn_X9_finding : GoodIn wsX9_turn (wsV RX9 44 RX9 yX9_finding wsX9_finding) := goodIn_app (goodIn_r _ [11, 12, 13, 14] rfl (by decide +kernel)) ggX9_turn_X9_finding
theorem dX9_turn_57 : decode cX9_turn 57 = .ok (.invokevirtual 44, 3) := by decide +kernel
theorem dX9_turn_60 : decode cX9_turn 60 = .ok (.ireturn, 1) := by decide +kernel
theorem dX9_turn_21 : decode cX9_turn 21 = .ok (.aload_n 0, 1) := by decide +kernel
theorem dX9_turn_22 : decode cX9_turn 22 = .ok (.ldc 137, 2) := by decide +kernel
theorem dX9_turn_24 : decode cX9_turn 24 = .ok (.invokevirtual 44, 3) := by decide +kernel
theorem dX9_turn_27 : decode cX9_turn 27 = .ok (.ireturn, 1) := by decide +kernel
theorem dX9_turn_7 : decode cX9_turn 7 = .ok (.aload_n 0, 1) := by decide +kernel
theorem dX9_turn_8 : decode cX9_turn 8 = .ok (.ldc 43, 2) := by decide +kernel
theorem dX9_turn_10 : decode cX9_turn 10 = .ok (.invokevirtual 44, 3) := by decide +kernel
theorem dX9_turn_13 : decode cX9_turn 13 = .ok (.ireturn, 1) := by decide +kernel
set_option maxRecDepth 20000 in
theorem ihX9_turn_3 : ∀ w ∈ u_ws RX3 TX3 3, w ∈ wsX9_turn := fun _ h => List.mem_cons_of_mem _ (List.mem_append_left _ (List.mem_append_left _ (List.mem_append_right _ h)))
set_option maxRecDepth 20000 in
theorem ihX9_turn_8 : ∀ w ∈ u_ws RX8 TX8 2, w ∈ wsX9_turn := fun _ h => List.mem_cons_of_mem _ (List.mem_append_left _ (List.mem_append_left _ (List.mem_append_left _ (List.mem_append_right _ h))))
set_option maxRecDepth 20000 in
theorem ihX9_turn_9 : ∀ w ∈ u_ws RX9 TX9 11, w ∈ wsX9_turn := fun _ h => List.mem_cons_of_mem _ (List.mem_append_left _ (List.mem_append_left _ (List.mem_append_left _ (List.mem_append_left _ (List.mem_append_right _ h)))))
set_option maxHeartbeats 4000000 in
set_option maxRecDepth 100000 in
theorem t_X9_turn (l : Launch) (D : va_G) (cy : Nat → ClassId) (a : Nat → Nat) (sz : Nat) (J : Nat → Int64) (I : Nat → Int32) (O : Nat → Option Nat) (R : Nat → Nat → Int32) (RO : Nat → Nat → Option Nat) (LL : va_W) (Y : va_W) (x0 : Int32) (hM : CI a Y I O RO) (hL : LOK cy (O 5) LL) : Met l yX9_turn wsX9_turn ({ frames := 6, cells := 7, slots := 34315, locals := 145 }) (va_Pc [.ref (a 0), .int x0] (PW D cy sz (CT cy a J I O R RO (LL ++ Y)))) (va_Qi (fun r (u : TS) => ∃ (w0 : Int64), ∃ (w1 : Int64), ∃ (w2 : Int32), ∃ (w3 : Option Nat), ∃ (w4 : Option Nat), ∃ (LL9 : va_W), ∃ (Y9 : va_W), ((layO Y9 w4) ∧ (∀ c, c ∈ Y → c ∈ Y9) ∧ LOK cy w3 LL9) ∧ u = ((va_up (va_up J 224 w0) 225 w1), (va_up I 10 w2), (va_up (va_up O 5 w3) 8 w4), R, RO, LL9, Y9)) (BW D (va_A (CT cy a J I O R RO (LL ++ Y)) sz) (CTu cy a)) (va_A (CT cy a J I O R RO (LL ++ Y)) sz)) 7 34315 (va_A (CT cy a J I O R RO (LL ++ Y)) sz) := by
  refine Met.ofW (cc := cX9_turn) (maxL := 2) (ret := (some .int)) (by decide) rfl ?_
  intro p e s m args below meth c s₁ B hml hv
  obtain ⟨rfl, rfl, hP, hK, hN, hD0⟩ := hv
  have hx := B.exec
  have hb := B.bytes
  have hr := B.returns
  have hts := atoms_spec (ws := wsX9_turn) B.pre
  have hown : s.vm.findClass RX9 = some m.cls := findClass_of_methodNamed B.named
  have hlocks := B.notSynchronized
  have hw0 := hts (.fieldLink RX9 133 "ParquetLayer" "hand" "LParquetLayer$Laying;") (by decide +kernel)
  have hw1 := hts (.fieldLink RX9 31 "ParquetLayer" "turner" "LParquetLayer$Turner;") (by decide +kernel)
  have hw2 := hts (.fieldLink RX9 221 "ParquetLayer$Turner" "across" "J") (by decide +kernel)
  have hw3 := hts (.fieldLink RX9 196 "ParquetLayer$Laying" "number" "I") (by decide +kernel)
  have hw4 := hts (.constant RX9 137 (-100006)) (by decide +kernel)
  have hw5 := hts (.constant RX9 43 (-100001)) (by decide +kernel)
  have hi3 := ihX9_turn_3
  have hi8 := ihX9_turn_8
  have hi9 := ihX9_turn_9
  have hD := hD0.self (sz := s.heap.size)
  generalize hAe : va_A (CT cy a J I O R RO (LL ++ Y)) s.heap.size = A at hD ⊢
  have hA : ∀ q : Nat, s.heap.size ≤ q → A q := fun q h => by rw [← hAe]; exact Or.inr h
  have hS : va_S A s.heap s.heap [] := va_S.rf
  have hl := lv_entry ([.ref (a 0), .int x0]) (n := 2) (Nat.le_of_ble_eq_true rfl)
  rw [lg_entry_eq]
  generalize (lg_sl ([.ref (a 0), .int x0]) ++ List.replicate (2 - (lg_sl ([.ref (a 0), .int x0])).length) Slot.unset).toArray = ls at hl ⊢
  have hl : lv_has ls 2 [(0, .ref (a 0)), (1, .int x0)] := hl
  have hRO0 := hM.2.2.2.2.2.2.2.2.1
  have hRO1 := hM.2.2.2.2.2.2.2.2.2.1
  have hRO2 := hM.2.2.2.2.2.2.2.2.2.2.1
  have hRO3 := hM.2.2.2.2.2.2.2.2.2.2.2
  have hP : va_P D vwCl (CT cy a (va_up (va_up J 224 (J 224)) 225 (J 225)) (va_up I 10 (I 10)) (va_up (va_up O 5 (O 5)) 8 (O 8)) R RO (LL ++ Y)) s.heap := hP
  have hD : va_D A (CT cy a (va_up (va_up J 224 (J 224)) 225 (J 225)) (va_up I 10 (I 10)) (va_up (va_up O 5 (O 5)) 8 (O 8)) R RO (LL ++ Y)) := hD
  refine lv_iload_n hx hb dX9_turn_0 rfl (lv_at hl 1 rfl) ?_
  refine kS_i (As := [.int x0]) (rest := []) ⟨hx, hb, hml, hown, hts⟩ (c_X8_isCorner l x0) (va_cwS 1 hts gX9_turn_X8_isCorner rfl rfl rfl (by decide +kernel) ⟨Nat.le_of_ble_eq_true rfl, Nat.le_of_ble_eq_true rfl⟩) rfl hl.1 rfl (Nat.le_of_ble_eq_true rfl) dX9_turn_1 ⟨Nat.le_of_ble_eq_true rfl, Nat.le_of_ble_eq_true rfl⟩ ?_
  refine lv_if_ne (tgt := 14) hx hb dX9_turn_4 (by decide) (fun c_1 => ?_) (fun c_1 => ?_)
  · replace c_1 := bI_t c_1
    refine lv_aload_n hx hb dX9_turn_14 rfl (lv_at hl 0 rfl) ?_
    refine va_get (D := D) (ci := 8) (v := va_rf (O 8)) (C := RX9) (T := TX9) (N := 11) hx hb hts hi9 hown hK hP 0 rfl rfl 8 (by decide) hw0 (fun _ h9 => h9) rfl dX9_turn_15 ?_
    refine lv_ifnonnullO (tgt := 28) hx hb dX9_turn_18 (by decide) (fun c_2 => ?_) (fun c_2 => ?_)
    · obtain ⟨b_3, v_6, v_7, v_8, e_5, hm_4⟩ := lay_some hM.2.2.1 c_2
      rw [e_5] at hP hD
      have hi_9 : layO Y (some b_3) := by rw [← e_5]; exact hM.2.2.1
      refine lv_aload_n hx hb dX9_turn_28 rfl (lv_at hl 0 rfl) ?_
      refine va_get (D := D) (ci := 8) (v := .ref (a 7)) (C := RX9) (T := TX9) (N := 11) hx hb hts hi9 hown hK hP 0 rfl rfl 3 (by decide) hw1 (fun _ h9 => h9) rfl dX9_turn_29 ?_
      refine lv_aload_n hx hb dX9_turn_32 rfl (lv_at hl 0 rfl) ?_
      refine va_get (D := D) (ci := 8) (v := .ref b_3) (C := RX9) (T := TX9) (N := 11) hx hb hts hi9 hown hK hP 0 rfl rfl 8 (by decide) hw0 (fun _ h9 => h9) rfl dX9_turn_33 ?_
      refine lv_aload_n hx hb dX9_turn_36 rfl (lv_at hl 0 rfl) ?_
      refine kRa_l (As := []) (rest := [.ref b_3, .ref (a 7)]) (q0 := 0) ⟨hx, hb, hml, hown, hts⟩ (t_X9_gluedFields l D cy a _ (va_up (va_up J 224 (J 224)) 225 (J 225)) (va_up I 10 (I 10)) (va_up (va_up O 5 (O 5)) 8 (some b_3)) R RO LL Y   ⟨hM.1, hM.2.1, hi_9, hM.2.2.2.1, hM.2.2.2.2.1, hM.2.2.2.2.2.1, hM.2.2.2.2.2.2.1, hM.2.2.2.2.2.2.2.1, hRO0, hRO1, hRO2, hRO3⟩) (cwV 0 hts gX9_turn_X9_gluedFields rfl rfl rfl (by decide +kernel) ⟨Nat.le_of_ble_eq_true rfl, Nat.le_of_ble_eq_true rfl⟩) hK hN hP hD rfl rfl rfl hl.1 rfl (Nat.le_of_ble_eq_true rfl) dX9_turn_37 ⟨Nat.le_of_ble_eq_true rfl, Nat.le_of_ble_eq_true rfl⟩ (fun r_10 hr_11 => ?_)
      refine kM_v (As := [.ref b_3, .long r_10]) (rest := []) (q0 := 7) ⟨hx, hb, hml, hown, hts⟩ (t_X8_start l D cy a _ (va_up (va_up J 224 (J 224)) 225 (J 225)) (va_up I 10 (I 10)) (va_up (va_up O 5 (O 5)) 8 (some b_3)) R RO LL Y b_3 v_6 v_7 v_8 hm_4 r_10   ) (cwV 2 hts gX9_turn_X8_start rfl rfl rfl (by decide +kernel) ⟨Nat.le_of_ble_eq_true rfl, Nat.le_of_ble_eq_true rfl⟩) hK hN hP hD hS hA rfl rfl rfl hl.1 rfl (Nat.le_of_ble_eq_true rfl) dX9_turn_40 ⟨Nat.le_of_ble_eq_true rfl, Nat.le_of_ble_eq_true rfl⟩ (fun u H locs hw hP hD hS => ?_)
      obtain ⟨w_13, w_14, -, rfl⟩ := hw
      have hP : va_P D vwCl (CT cy a (va_up (va_up J 224 w_13) 225 w_14) (va_up I 10 (I 10)) (va_up (va_up O 5 (O 5)) 8 (some b_3)) R RO (LL ++ Y)) H := hP
      have hD : va_D A (CT cy a (va_up (va_up J 224 w_13) 225 w_14) (va_up I 10 (I 10)) (va_up (va_up O 5 (O 5)) 8 (some b_3)) R RO (LL ++ Y)) := hD
      refine lv_aload_n hx hb dX9_turn_43 rfl (lv_at hl 0 rfl) ?_
      refine va_get (D := D) (ci := 8) (v := .ref (a 7)) (C := RX9) (T := TX9) (N := 11) hx hb hts hi9 hown hK hP 0 rfl rfl 3 (by decide) hw1 (fun _ h9 => h9) rfl dX9_turn_44 ?_
      refine lv_iload_n hx hb dX9_turn_47 rfl (lv_at hl 1 rfl) ?_
      refine kRa_i (As := [.int x0]) (rest := []) (q0 := 7) ⟨hx, hb, hml, hown, hts⟩ (t_X8_lying l D cy a _ (va_up (va_up J 224 w_13) 225 w_14) (va_up I 10 (I 10)) (va_up (va_up O 5 (O 5)) 8 (some b_3)) R RO LL Y x0  ) (cwV 1 hts gX9_turn_X8_lying rfl rfl rfl (by decide +kernel) ⟨Nat.le_of_ble_eq_true rfl, Nat.le_of_ble_eq_true rfl⟩) hK hN hP hD rfl rfl rfl hl.1 rfl (Nat.le_of_ble_eq_true rfl) dX9_turn_48 ⟨Nat.le_of_ble_eq_true rfl, Nat.le_of_ble_eq_true rfl⟩ (fun r_15 hr_16 => ?_)
      refine lv_if_ne (tgt := 61) hx hb dX9_turn_51 (by decide) (fun c_17 => ?_) (fun c_17 => ?_)
      · refine lv_aload_n hx hb dX9_turn_61 rfl (lv_at hl 0 rfl) ?_
        refine va_get (D := D) (ci := 8) (v := .ref (a 7)) (C := RX9) (T := TX9) (N := 11) hx hb hts hi9 hown hK hP 0 rfl rfl 3 (by decide) hw1 (fun _ h9 => h9) rfl dX9_turn_62 ?_
        refine lv_iload_n hx hb dX9_turn_65 rfl (lv_at hl 1 rfl) ?_
        refine kM_v (As := [.int x0]) (rest := []) (q0 := 7) ⟨hx, hb, hml, hown, hts⟩ (t_X8_flip l D cy a _ (va_up (va_up J 224 w_13) 225 w_14) (va_up I 10 (I 10)) (va_up (va_up O 5 (O 5)) 8 (some b_3)) R RO LL Y x0   ) (cwV 1 hts gX9_turn_X8_flip rfl rfl rfl (by decide +kernel) ⟨Nat.le_of_ble_eq_true rfl, Nat.le_of_ble_eq_true rfl⟩) hK hN hP hD hS hA rfl rfl rfl hl.1 rfl (Nat.le_of_ble_eq_true rfl) dX9_turn_66 ⟨Nat.le_of_ble_eq_true rfl, Nat.le_of_ble_eq_true rfl⟩ (fun u H locs hw hP hD hS => ?_)
        obtain ⟨w_19, w_20, -, rfl⟩ := hw
        have hP : va_P D vwCl (CT cy a (va_up (va_up J 224 w_19) 225 w_20) (va_up I 10 (I 10)) (va_up (va_up O 5 (O 5)) 8 (some b_3)) R RO (LL ++ Y)) H := hP
        have hD : va_D A (CT cy a (va_up (va_up J 224 w_19) 225 w_20) (va_up I 10 (I 10)) (va_up (va_up O 5 (O 5)) 8 (some b_3)) R RO (LL ++ Y)) := hD
        refine lv_aload_n hx hb dX9_turn_69 rfl (lv_at hl 0 rfl) ?_
        refine lv_aload_n hx hb dX9_turn_70 rfl (lv_at hl 0 rfl) ?_
        refine lv_aload_n hx hb dX9_turn_71 rfl (lv_at hl 0 rfl) ?_
        refine kM_r (As := []) (rest := [.ref (a 0), .ref (a 0)]) (q0 := 0) ⟨hx, hb, hml, hown, hts⟩ (t_X9_knownLayings l D cy a _ (va_up (va_up J 224 w_19) 225 w_20) (va_up I 10 (I 10)) (va_up (va_up O 5 (O 5)) 8 (some b_3)) R RO LL Y   ⟨hM.1, hM.2.1, hi_9, hM.2.2.2.1, hM.2.2.2.2.1, hM.2.2.2.2.2.1, hM.2.2.2.2.2.2.1, hM.2.2.2.2.2.2.2.1, hRO0, hRO1, hRO2, hRO3⟩ hL) (cwV 0 hts gX9_turn_X9_knownLayings rfl rfl rfl (by decide +kernel) ⟨Nat.le_of_ble_eq_true rfl, Nat.le_of_ble_eq_true rfl⟩) hK hN hP hD hS hA rfl rfl rfl hl.1 rfl (Nat.le_of_ble_eq_true rfl) dX9_turn_72 ⟨Nat.le_of_ble_eq_true rfl, Nat.le_of_ble_eq_true rfl⟩ (fun u r_21 H locs hw hP hD hS => ?_)
        obtain ⟨g_22, g_23, g_24, g_25, g_26, g_27⟩ := u
        have hkn_28 : isB g_25 := hw.1
        have htb_29 : g_25 = 1 → tabF (bfx g_24) g_26 0 := hw.2
        have hP : va_P D vwCl (CT cy a (va_up (va_up J 224 w_19) 225 w_20) (va_up I 10 (I 10)) (va_up (va_up O 5 (some r_21)) 8 (some b_3)) R RO ([(r_21, .inr (3, [.ref g_22, .ref g_23, .long g_24, .int g_25])), (g_22, .inl (cy 0, 16640, .inl g_26)), (g_23, .inl (cy 0, 512, .inl g_27))] ++ Y)) H := hP
        have hD : va_D A (CT cy a (va_up (va_up J 224 w_19) 225 w_20) (va_up I 10 (I 10)) (va_up (va_up O 5 (some r_21)) 8 (some b_3)) R RO ([(r_21, .inr (3, [.ref g_22, .ref g_23, .long g_24, .int g_25])), (g_22, .inl (cy 0, 16640, .inl g_26)), (g_23, .inl (cy 0, 512, .inl g_27))] ++ Y)) := hD
        refine lv_aload_n hx hb dX9_turn_75 rfl (lv_at hl 0 rfl) ?_
        refine va_get (D := D) (ci := 8) (v := .ref (a 7)) (C := RX9) (T := TX9) (N := 11) hx hb hts hi9 hown hK hP 0 rfl rfl 3 (by decide) hw1 (fun _ h9 => h9) rfl dX9_turn_76 ?_
        refine va_get (D := D) (ci := 7) (v := .long w_20) (C := RX8) (T := TX8) (N := 2) hx hb hts hi8 hown hK hP 7 rfl rfl 1 (by decide) hw2 (fun _ h9 => h9) rfl dX9_turn_79 ?_
        refine kRa_i (As := [.long w_20]) (rest := [.ref (a 0), .ref (a 0)]) (q0 := 20) ⟨hx, hb, hml, hown, hts⟩ (t_X4_numberOf l D cy a _ (va_up (va_up J 224 w_19) 225 w_20) (va_up I 10 (I 10)) (va_up (va_up O 5 (some r_21)) 8 (some b_3)) R RO r_21 g_22 g_23 g_24 g_25 g_26 g_27 hkn_28 Y w_20  ) (cwV 1 hts gX9_turn_X4_numberOf rfl rfl rfl (by decide +kernel) ⟨Nat.le_of_ble_eq_true rfl, Nat.le_of_ble_eq_true rfl⟩) hK hN hP hD rfl rfl rfl hl.1 rfl (Nat.le_of_ble_eq_true rfl) dX9_turn_82 ⟨Nat.le_of_ble_eq_true rfl, Nat.le_of_ble_eq_true rfl⟩ (fun r_30 hr_31 => ?_)
        refine kM_r (As := [.int r_30]) (rest := [.ref (a 0)]) (q0 := 0) ⟨hx, hb, hml, hown, hts⟩ (t_X9_layingOf l D cy a _ (va_up (va_up J 224 w_19) 225 w_20) (va_up I 10 (I 10)) (va_up (va_up O 5 (some r_21)) 8 (some b_3)) R RO ([(r_21, .inr (3, [.ref g_22, .ref g_23, .long g_24, .int g_25])), (g_22, .inl (cy 0, 16640, .inl g_26)), (g_23, .inl (cy 0, 512, .inl g_27))]) Y r_30  ⟨hM.1, hM.2.1, hi_9, hM.2.2.2.1, hM.2.2.2.2.1, hM.2.2.2.2.2.1, hM.2.2.2.2.2.2.1, hM.2.2.2.2.2.2.2.1, hRO0, hRO1, hRO2, hRO3⟩ (Or.inr ⟨_, _, _, _, _, _, _, rfl, hkn_28, htb_29, rfl⟩)) (cwV 1 hts gX9_turn_X9_layingOf rfl rfl rfl (by decide +kernel) ⟨Nat.le_of_ble_eq_true rfl, Nat.le_of_ble_eq_true rfl⟩) hK hN hP hD hS hA rfl rfl rfl hl.1 rfl (Nat.le_of_ble_eq_true rfl) dX9_turn_85 ⟨Nat.le_of_ble_eq_true rfl, Nat.le_of_ble_eq_true rfl⟩ (fun u r_32 H locs hw hP hD hS => ?_)
        obtain ⟨g_33, g_34, g_35, g_36⟩ := u
        have hL_37 : LOK cy g_33 g_34 := hw
        have hs_38 : ∀ c, c ∈ Y → c ∈ (Y ++ [laC r_32 r_30 g_35 g_36]) := fun c h => List.mem_append_left _ h
        have hi_39 : chO (Y ++ [laC r_32 r_30 g_35 g_36]) (O 7) := chO_mono hs_38 hM.2.1
        have hi_40 : layO (Y ++ [laC r_32 r_30 g_35 g_36]) (some b_3) := layO_mono hs_38 hi_9
        have hi_41 : ∀ i, i < 20 → pasO (Y ++ [laC r_32 r_30 g_35 g_36]) ((RO 2) i) := pas_mono hs_38 hM.2.2.2.1
        have hmono_42 : ∀ c, c ∈ Y → c ∈ (Y ++ [laC r_32 r_30 g_35 g_36]) := fun c h => hs_38 c ((fun _ h => h) c h)
        have hP : va_P D vwCl (CT cy a (va_up (va_up J 224 w_19) 225 w_20) (va_up I 10 (I 10)) (va_up (va_up O 5 g_33) 8 (some b_3)) R RO (g_34 ++ (Y ++ [laC r_32 r_30 g_35 g_36]))) H := hP
        have hD : va_D A (CT cy a (va_up (va_up J 224 w_19) 225 w_20) (va_up I 10 (I 10)) (va_up (va_up O 5 g_33) 8 (some b_3)) R RO (g_34 ++ (Y ++ [laC r_32 r_30 g_35 g_36]))) := hD
        refine va_put (D := D) (ci := 8) (v := .ref r_32) (ty := .object "ParquetLayer$Laying") (C := RX9) (T := TX9) (N := 11) hx hb hts hi9 tyX9 tyX9_ok nmX9 hown hK hP hD hS 0 rfl rfl 8 (by decide) hw0 (fun _ h9 => h9) rfl (by decide +kernel) rfl rfl (Nat.le_of_ble_eq_true rfl) dX9_turn_88 (fun H locs hP hD hS => ?_)
        have hP : va_P D vwCl (CT cy a (va_up (va_up J 224 w_19) 225 w_20) (va_up I 10 (I 10)) (va_up (va_up O 5 g_33) 8 (some r_32)) R RO (g_34 ++ (Y ++ [laC r_32 r_30 g_35 g_36]))) H := hP
        have hD : va_D A (CT cy a (va_up (va_up J 224 w_19) 225 w_20) (va_up I 10 (I 10)) (va_up (va_up O 5 g_33) 8 (some r_32)) R RO (g_34 ++ (Y ++ [laC r_32 r_30 g_35 g_36]))) := hD
        have hi_43 : layO (Y ++ [laC r_32 r_30 g_35 g_36]) (some r_32) := (Or.inr ⟨_, _, _, _, rfl, mem_last⟩)
        refine lv_aload_n hx hb dX9_turn_91 rfl (lv_at hl 0 rfl) ?_
        refine va_get (D := D) (ci := 8) (v := .ref r_32) (C := RX9) (T := TX9) (N := 11) hx hb hts hi9 hown hK hP 0 rfl rfl 8 (by decide) hw0 (fun _ h9 => h9) rfl dX9_turn_92 ?_
        obtain ⟨k_44, hk_45⟩ : ∃ k : Nat, (CT cy a (va_up (va_up J 224 w_19) 225 w_20) (va_up I 10 (I 10)) (va_up (va_up O 5 g_33) 8 (some r_32)) R RO (g_34 ++ (Y ++ [laC r_32 r_30 g_35 g_36])))[k]? = some (r_32, .inr (2, [.int r_30, .long g_35, .long g_36])) := pixT mem_last
        refine va_get (D := D) (ci := 2) (v := .int r_30) (C := RX3) (T := TX3) (N := 3) hx hb hts hi3 hown hK hP k_44 hk_45 rfl 0 (by decide) hw3 (fun _ h9 => h9) rfl dX9_turn_95 ?_
        exact wret_i hx hb hr hlocks ((va_up (va_up J 224 w_19) 225 w_20), (va_up I 10 (I 10)), (va_up (va_up O 5 g_33) 8 (some r_32)), R, RO, g_34, Y ++ [laC r_32 r_30 g_35 g_36]) ⟨w_19, w_20, (I 10), g_33, (some r_32), g_34, (Y ++ [laC r_32 r_30 g_35 g_36]), ⟨hi_43, hmono_42, hL_37⟩, rfl⟩ hP hD hS dX9_turn_98
      · refine lv_aload_n hx hb dX9_turn_54 rfl (lv_at hl 0 rfl) ?_
        refine lv_ldc (v := (-100006)) hx hb hown hw4 dX9_turn_55 ?_
        refine kM_i (As := [.int (-100006)]) (rest := []) (q0 := 0) ⟨hx, hb, hml, hown, hts⟩ (t_X9_finding l D cy a _ (va_up (va_up J 224 w_13) 225 w_14) (va_up I 10 (I 10)) (va_up (va_up O 5 (O 5)) 8 (some b_3)) R RO LL Y ((-100006) : Int32)   ) (cwV 1 hts gX9_turn_X9_finding rfl rfl rfl (by decide +kernel) ⟨Nat.le_of_ble_eq_true rfl, Nat.le_of_ble_eq_true rfl⟩) hK hN hP hD hS hA rfl rfl rfl hl.1 rfl (Nat.le_of_ble_eq_true rfl) dX9_turn_57 ⟨Nat.le_of_ble_eq_true rfl, Nat.le_of_ble_eq_true rfl⟩ (fun r_46 u H locs hw hP hD hS => ?_)
        obtain ⟨w_47, rfl, rfl⟩ := hw
        have hP : va_P D vwCl (CT cy a (va_up (va_up J 224 w_13) 225 w_14) (va_up I 10 w_47) (va_up (va_up O 5 (O 5)) 8 (some b_3)) R RO (LL ++ Y)) H := hP
        have hD : va_D A (CT cy a (va_up (va_up J 224 w_13) 225 w_14) (va_up I 10 w_47) (va_up (va_up O 5 (O 5)) 8 (some b_3)) R RO (LL ++ Y)) := hD
        refine W.widen (k := 7) (n := 34315) (Nat.le_of_ble_eq_true rfl) (Nat.le_of_ble_eq_true rfl) ?_
        exact wret_i hx hb hr hlocks ((va_up (va_up J 224 w_13) 225 w_14), (va_up I 10 w_47), (va_up (va_up O 5 (O 5)) 8 (some b_3)), R, RO, LL, Y) ⟨w_13, w_14, w_47, (O 5), (some b_3), LL, Y, ⟨hi_9, (fun _ h => h), hL⟩, rfl⟩ hP hD hS dX9_turn_60
    · rw [c_2] at hP hD
      have hi_48 : layO Y none := by rw [← c_2]; exact hM.2.2.1
      refine lv_aload_n hx hb dX9_turn_21 rfl (lv_at hl 0 rfl) ?_
      refine lv_ldc (v := (-100006)) hx hb hown hw4 dX9_turn_22 ?_
      refine kM_i (As := [.int (-100006)]) (rest := []) (q0 := 0) ⟨hx, hb, hml, hown, hts⟩ (t_X9_finding l D cy a _ (va_up (va_up J 224 (J 224)) 225 (J 225)) (va_up I 10 (I 10)) (va_up (va_up O 5 (O 5)) 8 none) R RO LL Y ((-100006) : Int32)   ) (cwV 1 hts gX9_turn_X9_finding rfl rfl rfl (by decide +kernel) ⟨Nat.le_of_ble_eq_true rfl, Nat.le_of_ble_eq_true rfl⟩) hK hN hP hD hS hA rfl rfl rfl hl.1 rfl (Nat.le_of_ble_eq_true rfl) dX9_turn_24 ⟨Nat.le_of_ble_eq_true rfl, Nat.le_of_ble_eq_true rfl⟩ (fun r_49 u H locs hw hP hD hS => ?_)
      obtain ⟨w_50, rfl, rfl⟩ := hw
      have hP : va_P D vwCl (CT cy a (va_up (va_up J 224 (J 224)) 225 (J 225)) (va_up I 10 w_50) (va_up (va_up O 5 (O 5)) 8 none) R RO (LL ++ Y)) H := hP
      have hD : va_D A (CT cy a (va_up (va_up J 224 (J 224)) 225 (J 225)) (va_up I 10 w_50) (va_up (va_up O 5 (O 5)) 8 none) R RO (LL ++ Y)) := hD
      refine W.widen (k := 7) (n := 34315) (Nat.le_of_ble_eq_true rfl) (Nat.le_of_ble_eq_true rfl) ?_
      exact wret_i hx hb hr hlocks ((va_up (va_up J 224 (J 224)) 225 (J 225)), (va_up I 10 w_50), (va_up (va_up O 5 (O 5)) 8 none), R, RO, LL, Y) ⟨(J 224), (J 225), w_50, (O 5), none, LL, Y, ⟨hi_48, (fun _ h => h), hL⟩, rfl⟩ hP hD hS dX9_turn_27
  · replace c_1 := bI_f c_1
    refine lv_aload_n hx hb dX9_turn_7 rfl (lv_at hl 0 rfl) ?_
    refine lv_ldc (v := (-100001)) hx hb hown hw5 dX9_turn_8 ?_
    refine kM_i (As := [.int (-100001)]) (rest := []) (q0 := 0) ⟨hx, hb, hml, hown, hts⟩ (t_X9_finding l D cy a _ (va_up (va_up J 224 (J 224)) 225 (J 225)) (va_up I 10 (I 10)) (va_up (va_up O 5 (O 5)) 8 (O 8)) R RO LL Y ((-100001) : Int32)   ) (cwV 1 hts gX9_turn_X9_finding rfl rfl rfl (by decide +kernel) ⟨Nat.le_of_ble_eq_true rfl, Nat.le_of_ble_eq_true rfl⟩) hK hN hP hD hS hA rfl rfl rfl hl.1 rfl (Nat.le_of_ble_eq_true rfl) dX9_turn_10 ⟨Nat.le_of_ble_eq_true rfl, Nat.le_of_ble_eq_true rfl⟩ (fun r_51 u H locs hw hP hD hS => ?_)
    obtain ⟨w_52, rfl, rfl⟩ := hw
    have hP : va_P D vwCl (CT cy a (va_up (va_up J 224 (J 224)) 225 (J 225)) (va_up I 10 w_52) (va_up (va_up O 5 (O 5)) 8 (O 8)) R RO (LL ++ Y)) H := hP
    have hD : va_D A (CT cy a (va_up (va_up J 224 (J 224)) 225 (J 225)) (va_up I 10 w_52) (va_up (va_up O 5 (O 5)) 8 (O 8)) R RO (LL ++ Y)) := hD
    refine W.widen (k := 7) (n := 34315) (Nat.le_of_ble_eq_true rfl) (Nat.le_of_ble_eq_true rfl) ?_
    exact wret_i hx hb hr hlocks ((va_up (va_up J 224 (J 224)) 225 (J 225)), (va_up I 10 w_52), (va_up (va_up O 5 (O 5)) 8 (O 8)), R, RO, LL, Y) ⟨(J 224), (J 225), w_52, (O 5), (O 8), LL, Y, ⟨hM.2.2.1, (fun _ h => h), hL⟩, rfl⟩ hP hD hS dX9_turn_13
