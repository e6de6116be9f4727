theorem dX9_isLaying_0 : decode cX9_isLaying 0 = .ok (.iload_n 1, 1) := by decide +kernel
theorem dX9_isLaying_1 : decode cX9_isLaying 1 = .ok (.ifCond .lt 18, 3) := by decide +kernel
theorem dX9_isLaying_4 : decode cX9_isLaying 4 = .ok (.iload_n 1, 1) := by decide +kernel
theorem dX9_isLaying_5 : decode cX9_isLaying 5 = .ok (.aload_n 0, 1) := by decide +kernel
set_option maxRecDepth 20000 in
theorem ggX9_isLaying_X9_knownLayings : GoodIn wsX9_isLaying wsX9_knownLayings := goodIn_r _ [5, 6, 7, 8, 9, 10, 11, 12, 13, 14, 15, 16, 17, 18, 19, 20, 21, 22, 4, 23, 24, 25, 26, 27, 28, 29, 30, 31, 32, 33, 34, 35, 36, 37, 38, 39, 40, 41, 42, 43, 44, 45, 46, 47, 48, 49, 50, 51, 52, 53, 58, 59, 60, 61, 62, 63, 64, 65, 66, 67, 68, 69, 70, 71, 72, 73, 74, 75, 76, 77, 78, 79] (by decide +kernel) (by decide +kernel)
set_option maxRecDepth 20000 in
theorem gX9_isLaying_X9_knownLayings : GoodIn wsX9_isLaying (wsV RX9 170 RX9 yX9_knownLayings wsX9_knownLayings) := goodIn_app (goodIn_of _ (by decide +kernel)) ggX9_isLaying_X9_knownLayings
theorem dX9_isLaying_6 : decode cX9_isLaying 6 = .ok (.invokevirtual 170, 3) := by decide +kernel
set_option maxRecDepth 20000 in
theorem ggX9_isLaying_X4_total : GoodIn wsX9_isLaying wsX4_total := goodIn_r _ [57, 18, 69, 70, 71, 72] (by decide +kernel) (by decide +kernel)
set_option maxRecDepth 20000 in
theorem gX9_isLaying_X4_total : GoodIn wsX9_isLaying (wsV RX9 174 RX4 yX4_total wsX4_total) := goodIn_app (goodIn_of _ (by decide +kernel)) ggX9_isLaying_X4_total
theorem dX9_isLaying_9 : decode cX9_isLaying 9 = .ok (.invokevirtual 174, 3) := by decide +kernel
theorem dX9_isLaying_12 : decode cX9_isLaying 12 = .ok (.if_icmp .ge 7, 3) := by decide +kernel
theorem dX9_isLaying_19 : decode cX9_isLaying 19 = .ok (.iconst 0, 1) := by decide +kernel
theorem dX9_isLaying_20 : decode cX9_isLaying 20 = .ok (.ireturn, 1) := by decide +kernel
theorem dX9_isLaying_15 : decode cX9_isLaying 15 = .ok (.iconst 1, 1) := by decide +kernel
theorem dX9_isLaying_16 : decode cX9_isLaying 16 = .ok (.goto 4, 3) := by decide +kernel
set_option maxHeartbeats 4000000 in
set_option maxRecDepth 100000 in
theorem tr_isLaying (l : Launch) (D : va_G) (cy : Nat → ClassId) (a : Nat → Nat) (sz : Nat) (RO : Nat → Nat → Option Nat) (x0 : Int32) (hn : ¬ x0 < 0) : Met l yX9_isLaying wsX9_isLaying ({ frames := 5, cells := 3, slots := 17156, locals := 119 }) (va_Pc [.ref (a 0), .int x0] (PW D cy sz (CW cy a (fun _ => 0) (fun _ => 0) (va_up (fun _ => none) 100 (some (a 4))) (fun _ _ => 0) RO))) (va_Qi (fun r (u : Nat × Nat × Nat × (Nat → Int32)) => r = bI (decide (x0 = 0)) ∧ u.2.2.2 0 = 1) (BW D (va_A (CW cy a (fun _ => 0) (fun _ => 0) (va_up (fun _ => none) 100 (some (a 4))) (fun _ _ => 0) RO) sz) (fun u : Nat × Nat × Nat × (Nat → Int32) => CL cy (ext a u.1 u.2.1 u.2.2.1) (fun _ => 0) (va_up (fun _ => 0) 643 1) (va_up (va_up (fun _ => none) 100 (some (a 4))) 5 (some u.1)) (va_up (fun _ _ => 0) 21 u.2.2.2) RO)) (va_A (CW cy a (fun _ => 0) (fun _ => 0) (va_up (fun _ => none) 100 (some (a 4))) (fun _ _ => 0) RO) sz)) 3 17156 (va_A (CW cy a (fun _ => 0) (fun _ => 0) (va_up (fun _ => none) 100 (some (a 4))) (fun _ _ => 0) RO) sz) := by
  refine Met.ofW (cc := cX9_isLaying) (maxL := 2) (ret := (some .boolean)) (by decide) rfl ?_
  intro p e s m args below meth c s₁ B hml hv
  obtain ⟨rfl, rfl, hP, hK, hN, hD0⟩ := hv
  have hx := B.exec
  have hb := B.bytes
  have hr := B.returns
  have hts := atoms_spec (ws := wsX9_isLaying) B.pre
  have hown : s.vm.findClass RX9 = some m.cls := findClass_of_methodNamed B.named
  have hlocks := B.notSynchronized
  have hD := hD0.self (sz := s.heap.size)
  generalize hAe : va_A (CW cy a (fun _ => 0) (fun _ => 0) (va_up (fun _ => none) 100 (some (a 4))) (fun _ _ => 0) RO) s.heap.size = A at hD ⊢
  have hA : ∀ q : Nat, s.heap.size ≤ q → A q := fun q h => by rw [← hAe]; exact Or.inr h
  have hS : va_S A s.heap s.heap [] := va_S.rf
  have hl := lv_entry ([.ref (a 0), .int x0]) (n := 2) (Nat.le_of_ble_eq_true rfl)
  rw [lg_entry_eq]
  generalize (lg_sl ([.ref (a 0), .int x0]) ++ List.replicate (2 - (lg_sl ([.ref (a 0), .int x0])).length) Slot.unset).toArray = ls at hl ⊢
  have hl : lv_has ls 2 [(0, .ref (a 0)), (1, .int x0)] := hl
  refine lv_iload_n hx hb dX9_isLaying_0 rfl (lv_at hl 1 rfl) ?_
  refine lv_if_lt (tgt := 19) hx hb dX9_isLaying_1 (by decide) (fun c_1 => absurd c_1 hn) (fun c_1 => ?_)
  refine lv_iload_n hx hb dX9_isLaying_4 rfl (lv_at hl 1 rfl) ?_
  refine lv_aload_n hx hb dX9_isLaying_5 rfl (lv_at hl 0 rfl) ?_
  refine kM_r (As := []) (rest := [.int x0]) (q0 := 0) ⟨hx, hb, hml, hown, hts⟩ (mr_known0 l D cy a _ RO  ) (cwV 0 hts gX9_isLaying_X9_knownLayings rfl rfl rfl (by decide +kernel) ⟨Nat.le_of_ble_eq_true rfl, Nat.le_of_ble_eq_true rfl⟩) hK hN hP hD hS hA rfl rfl rfl hl.1 rfl (Nat.le_of_ble_eq_true rfl) dX9_isLaying_6 ⟨Nat.le_of_ble_eq_true rfl, Nat.le_of_ble_eq_true rfl⟩ (fun u r H locs hw hP hD hS => ?_)
  obtain ⟨q_3, q_4, W_5⟩ := u
  have hW_6 : W_5 0 = 1 := hw
  obtain ⟨q_2, rfl⟩ : ∃ z, z = r := ⟨_, rfl⟩
  have hP : va_P D vwCl (CL cy (ext a q_2 q_3 q_4) (fun _ => 0) (va_up (fun _ => 0) 643 1) (va_up (va_up (fun _ => none) 100 (some (a 4))) 5 (some q_2)) (va_up (fun _ _ => 0) 21 W_5) RO) H := hP
  have hD : va_D A (CL cy (ext a q_2 q_3 q_4) (fun _ => 0) (va_up (fun _ => 0) 643 1) (va_up (va_up (fun _ => none) 100 (some (a 4))) 5 (some q_2)) (va_up (fun _ _ => 0) 21 W_5) RO) := hD
  refine kR_i (As := []) (rest := [.int x0]) (q0 := 20) ⟨hx, hb, hml, hown, hts⟩ (c_X4_total l D cy (ext a q_2 q_3 q_4) _ RO  W_5) (cwV 0 hts gX9_isLaying_X4_total rfl rfl rfl (by decide +kernel) ⟨Nat.le_of_ble_eq_true rfl, Nat.le_of_ble_eq_true rfl⟩) hK hN hP hD rfl rfl rfl hl.1 rfl (Nat.le_of_ble_eq_true rfl) dX9_isLaying_9 ⟨Nat.le_of_ble_eq_true rfl, Nat.le_of_ble_eq_true rfl⟩ ?_
  refine wtop_i (y := 1) hW_6 ?_
  refine lv_icmp_ge (tgt := 19) hx hb dX9_isLaying_12 (by decide) (fun c_7 => ?_) (fun c_7 => ?_)
  · refine lv_iconst (v := 0) hx hb dX9_isLaying_19 (by decide) ?_
    exact wret_z hx hb hr hlocks rfl (q_2, q_3, q_4, W_5) ⟨(by simp [bI, lay_no2 c_7]), hW_6⟩ hP hD hS dX9_isLaying_20
  · refine lv_iconst (v := 1) hx hb dX9_isLaying_15 (by decide) ?_
    refine lv_goto (tgt := 20) hx hb dX9_isLaying_16 (by decide) ?_
    exact wret_z hx hb hr hlocks rfl (q_2, q_3, q_4, W_5) ⟨(by simp [bI, i32_01' hn c_7]), hW_6⟩ hP hD hS dX9_isLaying_20
set_option maxHeartbeats 4000000 in
set_option maxRecDepth 100000 in
theorem c_isLaying_neg (l : Launch) (D : va_G) (cy : Nat → ClassId) (a : Nat → Nat) (sz : Nat) (RO : Nat → Nat → Option Nat) (x0 : Int32) (hn : x0 < 0) : Met l yX9_isLaying wsX9_isLaying ({ frames := 0, cells := 0, slots := 0, locals := 0 }) (va_Pc [.ref (a 0), .int x0] (PW D cy sz (CW cy a (fun _ => 0) (fun _ => 0) (va_up (fun _ => none) 100 (some (a 4))) (fun _ _ => 0) RO))) (vp_Si (fun r => r = bI (false))) 0 0 (fun _ => False) := by
  refine Met.ofW (cc := cX9_isLaying) (maxL := 2) (ret := (some .boolean)) (by decide) rfl ?_
  intro p e s m args below meth c s₁ B hml hv
  obtain ⟨rfl, rfl, hP, hK, hN, hD0⟩ := hv
  have hx := B.exec
  have hb := B.bytes
  have hr := B.returns
  have hts := atoms_spec (ws := wsX9_isLaying) B.pre
  have hown : s.vm.findClass RX9 = some m.cls := findClass_of_methodNamed B.named
  have hlocks := B.notSynchronized
  have hD := hD0
  have hl := lv_entry ([.ref (a 0), .int x0]) (n := 2) (Nat.le_of_ble_eq_true rfl)
  rw [lg_entry_eq]
  generalize (lg_sl ([.ref (a 0), .int x0]) ++ List.replicate (2 - (lg_sl ([.ref (a 0), .int x0])).length) Slot.unset).toArray = ls at hl ⊢
  have hl : lv_has ls 2 [(0, .ref (a 0)), (1, .int x0)] := hl
  refine lv_iload_n hx hb dX9_isLaying_0 rfl (lv_at hl 1 rfl) ?_
  refine lv_if_lt (tgt := 19) hx hb dX9_isLaying_1 (by decide) (fun c_1 => ?_) (fun c_1 => absurd hn c_1)
  refine lv_iconst (v := 0) hx hb dX9_isLaying_19 (by decide) ?_
  exact pret_z hx hb hr hlocks rfl dX9_isLaying_20
theorem dX9_layingOf_0 : decode cX9_layingOf 0 = .ok (.aload_n 0, 1) := by decide +kernel
set_option maxRecDepth 20000 in
theorem ggX9_layingOf_X9_knownLayings : GoodIn wsX9_layingOf wsX9_knownLayings := goodIn_r _ [8, 9, 10, 11, 12, 13, 14, 15, 16, 17, 18, 19, 20, 21, 22, 23, 24, 25, 7, 26, 27, 28, 29, 30, 31, 32, 33, 34, 35, 36, 37, 38, 39, 40, 41, 42, 43, 44, 45, 46, 47, 48, 49, 50, 51, 52, 53, 54, 55, 56, 91, 92, 93, 94, 95, 96, 97, 98, 99, 100, 101, 102, 103, 104, 105, 106, 107, 108, 109, 110, 111, 112] (by decide +kernel) (by decide +kernel)
set_option maxRecDepth 20000 in
theorem gX9_layingOf_X9_knownLayings : GoodIn wsX9_layingOf (wsV RX9 170 RX9 yX9_knownLayings wsX9_knownLayings) := goodIn_app (goodIn_of _ (by decide +kernel)) ggX9_layingOf_X9_knownLayings
theorem dX9_layingOf_1 : decode cX9_layingOf 1 = .ok (.invokevirtual 170, 3) := by decide +kernel
theorem dX9_layingOf_4 : decode cX9_layingOf 4 = .ok (.astore_n 2, 1) := by decide +kernel
theorem dX9_layingOf_5 : decode cX9_layingOf 5 = .ok (.aload_n 2, 1) := by decide +kernel
theorem dX9_layingOf_6 : decode cX9_layingOf 6 = .ok (.iload_n 1, 1) := by decide +kernel
set_option maxRecDepth 20000 in
theorem ggX9_layingOf_X4_acrossOf : GoodIn wsX9_layingOf wsX4_acrossOf := goodIn_r _ [60, 61, 62, 63, 12, 64, 43, 50, 51, 52, 53, 65, 66, 67, 68, 21, 47, 48, 49, 102, 103, 104, 105] (by decide +kernel) (by decide +kernel)
set_option maxRecDepth 20000 in
theorem gX9_layingOf_X4_acrossOf : GoodIn wsX9_layingOf (wsV RX9 345 RX4 yX4_acrossOf wsX4_acrossOf) := goodIn_app (goodIn_of _ (by decide +kernel)) ggX9_layingOf_X4_acrossOf
theorem dX9_layingOf_7 : decode cX9_layingOf 7 = .ok (.invokevirtual 345, 3) := by decide +kernel
theorem dX9_layingOf_10 : decode cX9_layingOf 10 = .ok (.lstore_n 3, 1) := by decide +kernel
theorem dX9_layingOf_11 : decode cX9_layingOf 11 = .ok (.aload_n 2, 1) := by decide +kernel
theorem dX9_layingOf_12 : decode cX9_layingOf 12 = .ok (.lload_n 3, 1) := by decide +kernel
set_option maxRecDepth 20000 in
theorem ggX9_layingOf_X4_alongBeside : GoodIn wsX9_layingOf wsX4_alongBeside := goodIn_r _ [72, 43, 73, 74, 50, 51, 52, 53, 102, 103, 104, 105] (by decide +kernel) (by decide +kernel)
set_option maxRecDepth 20000 in
theorem gX9_layingOf_X4_alongBeside : GoodIn wsX9_layingOf (wsV RX9 349 RX4 yX4_alongBeside wsX4_alongBeside) := goodIn_app (goodIn_of _ (by decide +kernel)) ggX9_layingOf_X4_alongBeside
theorem dX9_layingOf_13 : decode cX9_layingOf 13 = .ok (.invokevirtual 349, 3) := by decide +kernel
theorem dX9_layingOf_16 : decode cX9_layingOf 16 = .ok (.lstore 5, 2) := by decide +kernel
theorem dX9_layingOf_18 : decode cX9_layingOf 18 = .ok (.new 166, 3) := by decide +kernel
theorem dX9_layingOf_21 : decode cX9_layingOf 21 = .ok (.dup, 1) := by decide +kernel
theorem dX9_layingOf_22 : decode cX9_layingOf 22 = .ok (.iload_n 1, 1) := by decide +kernel
theorem dX9_layingOf_23 : decode cX9_layingOf 23 = .ok (.lload 5, 2) := by decide +kernel
theorem dX9_layingOf_25 : decode cX9_layingOf 25 = .ok (.aload_n 0, 1) := by decide +kernel
theorem dX9_layingOf_26 : decode cX9_layingOf 26 = .ok (.iconst 0, 1) := by decide +kernel
set_option maxRecDepth 20000 in
theorem ggX9_layingOf_X9_gluedStarts : GoodIn wsX9_layingOf wsX9_gluedStarts := goodIn_r _ [78, 27, 79, 80, 29, 30, 31, 32, 33, 34, 35, 36, 7, 37, 91, 92, 93, 94, 95, 96, 97, 98, 99, 100, 101, 106, 107, 108, 109, 110, 111, 112] (by decide +kernel) (by decide +kernel)
set_option maxRecDepth 20000 in
theorem gX9_layingOf_X9_gluedStarts : GoodIn wsX9_layingOf (wsV RX9 333 RX9 yX9_gluedStarts wsX9_gluedStarts) := goodIn_app (goodIn_of _ (by decide +kernel)) ggX9_layingOf_X9_gluedStarts
theorem dX9_layingOf_27 : decode cX9_layingOf 27 = .ok (.invokevirtual 333, 3) := by decide +kernel
theorem dX9_layingOf_30 : decode cX9_layingOf 30 = .ok (.lor, 1) := by decide +kernel
theorem dX9_layingOf_31 : decode cX9_layingOf 31 = .ok (.lload_n 3, 1) := by decide +kernel
theorem dX9_layingOf_32 : decode cX9_layingOf 32 = .ok (.aload_n 0, 1) := by decide +kernel
theorem dX9_layingOf_33 : decode cX9_layingOf 33 = .ok (.iconst 1, 1) := by decide +kernel
theorem dX9_layingOf_34 : decode cX9_layingOf 34 = .ok (.invokevirtual 333, 3) := by decide +kernel
theorem dX9_layingOf_37 : decode cX9_layingOf 37 = .ok (.lor, 1) := by decide +kernel
set_option maxRecDepth 20000 in
theorem ggX9_layingOf_X3_init : GoodIn wsX9_layingOf wsX3_init := goodIn_r _ [83, 84, 18, 19, 85, 86, 87, 88, 89, 90] (by decide +kernel) (by decide +kernel)
set_option maxRecDepth 20000 in
theorem gX9_layingOf_X3_init : GoodIn wsX9_layingOf (wsX3_init) := ggX9_layingOf_X3_init
theorem dX9_layingOf_38 : decode cX9_layingOf 38 = .ok (.invokespecial 352, 3) := by decide +kernel
theorem dX9_layingOf_41 : decode cX9_layingOf 41 = .ok (.areturn, 1) := by decide +kernel
set_option maxRecDepth 20000 in
theorem ihX9_layingOf_3 : ∀ w ∈ u_ws RX3 TX3 3, w ∈ wsX9_layingOf := by decide +kernel
set_option maxHeartbeats 4000000 in
set_option maxRecDepth 100000 in
theorem mr_layingOf (l : Launch) (D : va_G) (cy : Nat → ClassId) (a : Nat → Nat) (sz : Nat) (RO : Nat → Nat → Option Nat) (x0 : Int32) (W0 : Nat → Int32) (hW0 : W0 0 = 1) : Met l yX9_layingOf wsX9_layingOf ({ frames := 3, cells := 1, slots := 3, locals := 72 }) (va_Pc [.ref (a 0), .int x0] (PW D cy sz (CL cy a (fun _ => 0) (va_up (fun _ => 0) 643 1) (va_up (va_up (fun _ => none) 100 (some (a 4))) 5 (some (a 20))) (va_up (fun _ _ => 0) 21 W0) RO))) (va_Qr (fun u : Nat × Nat × Nat × (Nat → Int32) => True) (fun u r t => va_P D vwCl (CL cy (ext a u.1 u.2.1 u.2.2.1) (fun _ => 0) (va_up (fun _ => 0) 643 1) (va_up (va_up (fun _ => none) 100 (some (a 4))) 5 (some u.1)) (va_up (fun _ _ => 0) 21 u.2.2.2) RO ++ [(r, .inr (2, [.int x0, .long 0, .long 0]))]) t.heap ∧ va_D (va_A (CL cy a (fun _ => 0) (va_up (fun _ => 0) 643 1) (va_up (va_up (fun _ => none) 100 (some (a 4))) 5 (some (a 20))) (va_up (fun _ _ => 0) 21 W0) RO) sz) (CL cy (ext a u.1 u.2.1 u.2.2.1) (fun _ => 0) (va_up (fun _ => 0) 643 1) (va_up (va_up (fun _ => none) 100 (some (a 4))) 5 (some u.1)) (va_up (fun _ _ => 0) 21 u.2.2.2) RO ++ [(r, .inr (2, [.int x0, .long 0, .long 0]))])) (va_A (CL cy a (fun _ => 0) (va_up (fun _ => 0) 643 1) (va_up (va_up (fun _ => none) 100 (some (a 4))) 5 (some (a 20))) (va_up (fun _ _ => 0) 21 W0) RO) sz)) 1 3 (va_A (CL cy a (fun _ => 0) (va_up (fun _ => 0) 643 1) (va_up (va_up (fun _ => none) 100 (some (a 4))) 5 (some (a 20))) (va_up (fun _ _ => 0) 21 W0) RO) sz) := by
  refine Met.ofW (cc := cX9_layingOf) (maxL := 7) (ret := (some (.object "ParquetLayer$Laying"))) (by decide) rfl ?_
  intro p e s m args below meth c s₁ B hml hv
  obtain ⟨rfl, rfl, hP, hK, hN, hD0⟩ := hv
  have hx := B.exec
  have hb := B.bytes
  have hr := B.returns
  have hts := atoms_spec (ws := wsX9_layingOf) B.pre
  have hown : s.vm.findClass RX9 = some m.cls := findClass_of_methodNamed B.named
  have hlocks := B.notSynchronized
  have hw0 := hts (.classLink RX9 166 RX3) (by decide +kernel)
  have hw1 := hts (.instantiable RX3 3) (by decide +kernel)
  have hw2 := hts (.initialized RX3) (by decide +kernel)
  have hw3 := hts (.methodLink RX9 352 yX3_init) (by decide +kernel)
  have hw4 := hts (.instanceMethod yX3_init) (by decide +kernel)
  have hi3 := ihX9_layingOf_3
  have hD := hD0.self (sz := s.heap.size)
  generalize hAe : va_A (CL cy a (fun _ => 0) (va_up (fun _ => 0) 643 1) (va_up (va_up (fun _ => none) 100 (some (a 4))) 5 (some (a 20))) (va_up (fun _ _ => 0) 21 W0) RO) s.heap.size = A at hD ⊢
  have hA : ∀ q : Nat, s.heap.size ≤ q → A q := fun q h => by rw [← hAe]; exact Or.inr h
  have hS : va_S A s.heap s.heap [] := va_S.rf
  have hl := lv_entry ([.ref (a 0), .int x0]) (n := 7) (Nat.le_of_ble_eq_true rfl)
  rw [lg_entry_eq]
  generalize (lg_sl ([.ref (a 0), .int x0]) ++ List.replicate (7 - (lg_sl ([.ref (a 0), .int x0])).length) Slot.unset).toArray = ls at hl ⊢
  have hl : lv_has ls 7 [(0, .ref (a 0)), (1, .int x0)] := hl
  refine lv_aload_n hx hb dX9_layingOf_0 rfl (lv_at hl 0 rfl) ?_
  refine kM_r (As := []) (rest := []) (q0 := 0) ⟨hx, hb, hml, hown, hts⟩ (mr_known1 l D cy a _ RO  W0 hW0) (cwV 0 hts gX9_layingOf_X9_knownLayings rfl rfl rfl (by decide +kernel) ⟨Nat.le_of_ble_eq_true rfl, Nat.le_of_ble_eq_true rfl⟩) hK hN hP hD hS hA rfl rfl rfl hl.1 rfl (Nat.le_of_ble_eq_true rfl) dX9_layingOf_1 ⟨Nat.le_of_ble_eq_true rfl, Nat.le_of_ble_eq_true rfl⟩ (fun u r H locs hw hP hD hS => ?_)
  obtain ⟨q_2, q_3, W_4⟩ := u
  have hW_5 : W_4 0 = 1 := hw
  obtain ⟨q_1, rfl⟩ : ∃ z, z = r := ⟨_, rfl⟩
  have hP : va_P D vwCl (CL cy (ext a q_1 q_2 q_3) (fun _ => 0) (va_up (fun _ => 0) 643 1) (va_up (va_up (fun _ => none) 100 (some (a 4))) 5 (some q_1)) (va_up (fun _ _ => 0) 21 W_4) RO) H := hP
  have hD : va_D A (CL cy (ext a q_1 q_2 q_3) (fun _ => 0) (va_up (fun _ => 0) 643 1) (va_up (va_up (fun _ => none) 100 (some (a 4))) 5 (some q_1)) (va_up (fun _ _ => 0) 21 W_4) RO) := hD
  refine lv_astore_n (lv' := [(2, .ref q_1), (0, .ref (a 0)), (1, .int x0)]) hx hb dX9_layingOf_4 rfl hl (by decide) rfl (fun ls hl => ?_)
  refine lv_aload_n hx hb dX9_layingOf_5 rfl (lv_at hl 0 rfl) ?_
  refine lv_iload_n hx hb dX9_layingOf_6 rfl (lv_at hl 2 rfl) ?_
  refine kR_l (As := [.int x0]) (rest := []) (q0 := 20) ⟨hx, hb, hml, hown, hts⟩ (c_X4_acrossOf l D cy (ext a q_1 q_2 q_3) _ RO x0 W_4) (cwV 1 hts gX9_layingOf_X4_acrossOf rfl rfl rfl (by decide +kernel) ⟨Nat.le_of_ble_eq_true rfl, Nat.le_of_ble_eq_true rfl⟩) hK hN hP hD rfl rfl rfl hl.1 rfl (Nat.le_of_ble_eq_true rfl) dX9_layingOf_7 ⟨Nat.le_of_ble_eq_true rfl, Nat.le_of_ble_eq_true rfl⟩ ?_
  refine lv_lstore_n (lv' := [(3, .long 0), (2, .ref q_1), (0, .ref (a 0)), (1, .int x0)]) hx hb dX9_layingOf_10 rfl hl (by decide) rfl (fun ls hl => ?_)
  refine lv_aload_n hx hb dX9_layingOf_11 rfl (lv_at hl 1 rfl) ?_
  refine lv_lload_n hx hb dX9_layingOf_12 rfl (lv_at hl 0 rfl) ?_
  refine kR_l (As := [.long 0]) (rest := []) (q0 := 20) ⟨hx, hb, hml, hown, hts⟩ (c_X4_alongBeside l D cy (ext a q_1 q_2 q_3) _ RO  W_4) (cwV 1 hts gX9_layingOf_X4_alongBeside rfl rfl rfl (by decide +kernel) ⟨Nat.le_of_ble_eq_true rfl, Nat.le_of_ble_eq_true rfl⟩) hK hN hP hD rfl rfl rfl hl.1 rfl (Nat.le_of_ble_eq_true rfl) dX9_layingOf_13 ⟨Nat.le_of_ble_eq_true rfl, Nat.le_of_ble_eq_true rfl⟩ ?_
  refine lv_lstore (lv' := [(5, .long 0), (3, .long 0), (2, .ref q_1), (0, .ref (a 0)), (1, .int x0)]) hx hb dX9_layingOf_16 hl (by decide) rfl (fun ls hl => ?_)
  refine va_new (ci := 2) (fs := [.int 0, .long 0, .long 0]) (C := RX3) (T := TX3) (N := 3) hx hb hts hi3 tyX3 tyX3_ok hown hw0 hw1 hw2 hK hP hD hS hA rfl (fun j hj => by rcases (show j = 0 ∨ j = 1 ∨ j = 2 by omega) with rfl | rfl | rfl <;> rfl) (Nat.le_of_ble_eq_true rfl) (Nat.le_of_ble_eq_true rfl) dX9_layingOf_18 (fun q_6 H hP hD hS => ?_)
  have hP : va_P D vwCl (CL cy (ext a q_1 q_2 q_3) (fun _ => 0) (va_up (fun _ => 0) 643 1) (va_up (va_up (fun _ => none) 100 (some (a 4))) 5 (some q_1)) (va_up (fun _ _ => 0) 21 W_4) RO ++ [(q_6, .inr (2, [.int 0, .long 0, .long 0]))]) H := hP
  have hD : va_D A (CL cy (ext a q_1 q_2 q_3) (fun _ => 0) (va_up (fun _ => 0) 643 1) (va_up (va_up (fun _ => none) 100 (some (a 4))) 5 (some q_1)) (va_up (fun _ _ => 0) 21 W_4) RO ++ [(q_6, .inr (2, [.int 0, .long 0, .long 0]))]) := hD
  refine lv_dup hx hb dX9_layingOf_21 rfl ?_
  refine lv_iload_n hx hb dX9_layingOf_22 rfl (lv_at hl 4 rfl) ?_
  refine lv_lload hx hb dX9_layingOf_23 (lv_at hl 0 rfl) ?_
  refine lv_aload_n hx hb dX9_layingOf_25 rfl (lv_at hl 3 rfl) ?_
  refine lv_iconst (v := 0) hx hb dX9_layingOf_26 (by decide) ?_
  have hPb := hP.sub (ws' := CL cy (ext a q_1 q_2 q_3) (fun _ => 0) (va_up (fun _ => 0) 643 1) (va_up (va_up (fun _ => none) 100 (some (a 4))) 5 (some q_1)) (va_up (fun _ _ => 0) 21 W_4) RO) [0, 1, 2, 3, 4, 5, 6, 7, 8, 9, 10, 11, 12, 13, 14, 15, 16, 17, 18, 19, 20, 21, 22] rfl
  have hDb := hD.sub (ws' := CL cy (ext a q_1 q_2 q_3) (fun _ => 0) (va_up (fun _ => 0) 643 1) (va_up (va_up (fun _ => none) 100 (some (a 4))) 5 (some q_1)) (va_up (fun _ _ => 0) 21 W_4) RO) [0, 1, 2, 3, 4, 5, 6, 7, 8, 9, 10, 11, 12, 13, 14, 15, 16, 17, 18, 19, 20, 21, 22] (by decide) rfl
  refine kR_l (As := [.int 0]) (rest := [.long 0, .int x0, .ref q_6, .ref q_6]) (q0 := 0) ⟨hx, hb, hml, hown, hts⟩ (c_X9_gluedStartsL l D cy (ext a q_1 q_2 q_3) _ (va_up (fun _ => 0) 643 1) (va_up (fun _ _ => 0) 21 W_4) RO false ) (cwV 1 hts gX9_layingOf_X9_gluedStarts rfl rfl rfl (by decide +kernel) ⟨Nat.le_of_ble_eq_true rfl, Nat.le_of_ble_eq_true rfl⟩) hK hN hPb hDb rfl rfl rfl hl.1 rfl (Nat.le_of_ble_eq_true rfl) dX9_layingOf_27 ⟨Nat.le_of_ble_eq_true rfl, Nat.le_of_ble_eq_true rfl⟩ ?_
  refine lv_lor hx hb dX9_layingOf_30 ?_
  refine wtop_l (y := 0) (by decide) ?_
  refine lv_lload_n hx hb dX9_layingOf_31 rfl (lv_at hl 1 rfl) ?_
  refine lv_aload_n hx hb dX9_layingOf_32 rfl (lv_at hl 3 rfl) ?_
  refine lv_iconst (v := 1) hx hb dX9_layingOf_33 (by decide) ?_
  have hPb := hP.sub (ws' := CL cy (ext a q_1 q_2 q_3) (fun _ => 0) (va_up (fun _ => 0) 643 1) (va_up (va_up (fun _ => none) 100 (some (a 4))) 5 (some q_1)) (va_up (fun _ _ => 0) 21 W_4) RO) [0, 1, 2, 3, 4, 5, 6, 7, 8, 9, 10, 11, 12, 13, 14, 15, 16, 17, 18, 19, 20, 21, 22] rfl
  have hDb := hD.sub (ws' := CL cy (ext a q_1 q_2 q_3) (fun _ => 0) (va_up (fun _ => 0) 643 1) (va_up (va_up (fun _ => none) 100 (some (a 4))) 5 (some q_1)) (va_up (fun _ _ => 0) 21 W_4) RO) [0, 1, 2, 3, 4, 5, 6, 7, 8, 9, 10, 11, 12, 13, 14, 15, 16, 17, 18, 19, 20, 21, 22] (by decide) rfl
  refine kR_l (As := [.int 1]) (rest := [.long 0, .long 0, .int x0, .ref q_6, .ref q_6]) (q0 := 0) ⟨hx, hb, hml, hown, hts⟩ (c_X9_gluedStartsL l D cy (ext a q_1 q_2 q_3) _ (va_up (fun _ => 0) 643 1) (va_up (fun _ _ => 0) 21 W_4) RO true ) (cwV 1 hts gX9_layingOf_X9_gluedStarts rfl rfl rfl (by decide +kernel) ⟨Nat.le_of_ble_eq_true rfl, Nat.le_of_ble_eq_true rfl⟩) hK hN hPb hDb rfl rfl rfl hl.1 rfl (Nat.le_of_ble_eq_true rfl) dX9_layingOf_34 ⟨Nat.le_of_ble_eq_true rfl, Nat.le_of_ble_eq_true rfl⟩ ?_
  refine lv_lor hx hb dX9_layingOf_37 ?_
  refine wtop_l (y := 0) (by decide) ?_
  refine kNew_v (As := [.int x0, .long 0, .long 0]) (rest := [.ref q_6]) (X := CL cy (ext a q_1 q_2 q_3) (fun _ => 0) (va_up (fun _ => 0) 643 1) (va_up (va_up (fun _ => none) 100 (some (a 4))) 5 (some q_1)) (va_up (fun _ _ => 0) 21 W_4) RO) ⟨hx, hb, hml, hown, hts⟩ (ct_X3_init l D cy q_6 _ x0 0 0) (cwI 3 hts gX9_layingOf_X3_init rfl rfl rfl hw2 hw3 hw4 rfl (by decide +kernel) ⟨Nat.le_of_ble_eq_true rfl, Nat.le_of_ble_eq_true rfl⟩) hK hN hP hD hS hA rfl hl.1 rfl (Nat.le_of_ble_eq_true rfl) dX9_layingOf_38 ⟨Nat.le_of_ble_eq_true rfl, Nat.le_of_ble_eq_true rfl⟩ (fun u H locs hw hP hD hS => ?_)
  have hP : va_P D vwCl (CL cy (ext a q_1 q_2 q_3) (fun _ => 0) (va_up (fun _ => 0) 643 1) (va_up (va_up (fun _ => none) 100 (some (a 4))) 5 (some q_1)) (va_up (fun _ _ => 0) 21 W_4) RO ++ [(q_6, .inr (2, [.int x0, .long 0, .long 0]))]) H := hP
  have hD : va_D A (CL cy (ext a q_1 q_2 q_3) (fun _ => 0) (va_up (fun _ => 0) 643 1) (va_up (va_up (fun _ => none) 100 (some (a 4))) 5 (some q_1)) (va_up (fun _ _ => 0) 21 W_4) RO ++ [(q_6, .inr (2, [.int x0, .long 0, .long 0]))]) := hD
  exact wret_r hx hb hr hlocks (Or.inl ⟨_, rfl⟩) (q_1, q_2, q_3, W_4) trivial hP hD hS dX9_layingOf_41
