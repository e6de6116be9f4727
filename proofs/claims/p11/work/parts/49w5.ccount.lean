set_option maxHeartbeats 4000000 in
set_option maxRecDepth 100000 in
theorem x_X9_isLaying (l : Launch) (D : va_G) (cy : Nat → ClassId) (a : Nat → Nat) (sz : Nat) (J : Nat → Int64) (I : Nat → Int32) (O : Nat → Option Nat) (R : Nat → Nat → Int32) (RO : Nat → Nat → Option Nat) (LL : va_W) (Y : va_W) (x0 : Int32) (fl : Int64) (S : List Int32) (P : List PE) (hRA : RCf Y (J 6) (O 7) (I 9) (RO 2) fl S P) (hM : CI a Y I O RO) (hL : LOK cy (O 5) LL) : Met l yX9_isLaying wsX9_isLaying ({ frames := 5, cells := 3, slots := 17156, locals := 119 }) (va_Pc [.ref (a 0), .int x0] (PW D cy sz (CT cy a J I O R RO (LL ++ Y)))) (va_Qi (fun r (u : TS) => ∃ (w0 : Option Nat), ∃ (LL9 : va_W), (r = bI (inCnt fl S x0) ∧ LOK cy w0 LL9) ∧ u = (J, I, (va_up O 5 w0), R, RO, LL9, Y)) (BW D (va_A (CT cy a J I O R RO (LL ++ Y)) sz) (CTu cy a)) (va_A (CT cy a J I O R RO (LL ++ Y)) sz)) 3 17156 (va_A (CT cy a J I O R RO (LL ++ Y)) sz) := by
  refine Met.ofW (cc := cX9_isLaying) (maxL := 2) (ret := (some .boolean)) (by decide) rfl ?_
  intro p e s m args below meth c s₁ B hml hv
  obtain ⟨rfl, rfl, hP, hK, hN, hD0⟩ := hv
  have hx := B.exec
  have hb := B.bytes
  have hr := B.returns
  have hts := atoms_spec (ws := wsX9_isLaying) B.pre
  have hown : s.vm.findClass RX9 = some m.cls := findClass_of_methodNamed B.named
  have hlocks := B.notSynchronized
  have hD := hD0.self (sz := s.heap.size)
  generalize hAe : va_A (CT cy a J I O R RO (LL ++ Y)) s.heap.size = A at hD ⊢
  have hA : ∀ q : Nat, s.heap.size ≤ q → A q := fun q h => by rw [← hAe]; exact Or.inr h
  have hS : va_S A s.heap s.heap [] := va_S.rf
  have hl := lv_entry ([.ref (a 0), .int x0]) (n := 2) (Nat.le_of_ble_eq_true rfl)
  rw [lg_entry_eq]
  generalize (lg_sl ([.ref (a 0), .int x0]) ++ List.replicate (2 - (lg_sl ([.ref (a 0), .int x0])).length) Slot.unset).toArray = ls at hl ⊢
  have hl : lv_has ls 2 [(0, .ref (a 0)), (1, .int x0)] := hl
  have hRO0 := hM.2.2.2.2.2.2.2.2.1
  have hRO1 := hM.2.2.2.2.2.2.2.2.2.1
  have hRO2 := hM.2.2.2.2.2.2.2.2.2.2.1
  have hRO3 := hM.2.2.2.2.2.2.2.2.2.2.2
  have hP : va_P D vwCl (CT cy a J I (va_up O 5 (O 5)) R RO (LL ++ Y)) s.heap := hP
  have hD : va_D A (CT cy a J I (va_up O 5 (O 5)) R RO (LL ++ Y)) := hD
  refine lv_iload_n hx hb dX9_isLaying_0 rfl (lv_at hl 1 rfl) ?_
  refine lv_if_lt (tgt := 19) hx hb dX9_isLaying_1 (by decide) (fun c_1 => ?_) (fun c_1 => ?_)
  · refine lv_iconst (v := 0) hx hb dX9_isLaying_19 (by decide) ?_
    refine W.widen (k := 3) (n := 17156) (Nat.le_of_ble_eq_true rfl) (Nat.le_of_ble_eq_true rfl) ?_
    exact wret_z hx hb hr hlocks rfl (J, I, (va_up O 5 (O 5)), R, RO, LL, Y) ⟨(O 5), LL, ⟨(by rw [ic_1 c_1]; rfl), hL⟩, rfl⟩ hP hD hS dX9_isLaying_20
  · refine lv_iload_n hx hb dX9_isLaying_4 rfl (lv_at hl 1 rfl) ?_
    refine lv_aload_n hx hb dX9_isLaying_5 rfl (lv_at hl 0 rfl) ?_
    refine kM_r (As := []) (rest := [.int x0]) (q0 := 0) ⟨hx, hb, hml, hown, hts⟩ (x_X9_knownLayings l D cy a _ J I (va_up O 5 (O 5)) R RO LL Y  fl S P hRA ⟨hM.1, hM.2.1, hM.2.2.1, hM.2.2.2.1, hM.2.2.2.2.1, hM.2.2.2.2.2.1, hM.2.2.2.2.2.2.1, hM.2.2.2.2.2.2.2.1, hRO0, hRO1, hRO2, hRO3⟩ hL) (cwV 0 hts gX9_isLaying_X9_knownLayings rfl rfl rfl (by decide +kernel) ⟨Nat.le_of_ble_eq_true rfl, Nat.le_of_ble_eq_true rfl⟩) hK hN hP hD hS hA rfl rfl rfl hl.1 rfl (Nat.le_of_ble_eq_true rfl) dX9_isLaying_6 ⟨Nat.le_of_ble_eq_true rfl, Nat.le_of_ble_eq_true rfl⟩ (fun u r_2 H locs hw hP hD hS => ?_)
    obtain ⟨g_3, g_4, g_5, g_6, g_7, g_8⟩ := u
    obtain ⟨hkn_9, htb_10, hjf_11, htt_12⟩ := hw
    dsimp only at hkn_9 htb_10 hjf_11 htt_12
    have hP : va_P D vwCl (CT cy a J I (va_up O 5 (some r_2)) R RO ([(r_2, .inr (3, [.ref g_3, .ref g_4, .long g_5, .int g_6])), (g_3, .inl (cy 0, 16640, .inl g_7)), (g_4, .inl (cy 0, 512, .inl g_8))] ++ Y)) H := hP
    have hD : va_D A (CT cy a J I (va_up O 5 (some r_2)) R RO ([(r_2, .inr (3, [.ref g_3, .ref g_4, .long g_5, .int g_6])), (g_3, .inl (cy 0, 16640, .inl g_7)), (g_4, .inl (cy 0, 512, .inl g_8))] ++ Y)) := hD
    refine kR_i (As := []) (rest := [.int x0]) (q0 := 20) ⟨hx, hb, hml, hown, hts⟩ (t_X4_total l D cy a _ J I (va_up O 5 (some r_2)) R RO r_2 g_3 g_4 g_5 g_6 g_7 g_8 hkn_9 Y   ) (cwV 0 hts gX9_isLaying_X4_total rfl rfl rfl (by decide +kernel) ⟨Nat.le_of_ble_eq_true rfl, Nat.le_of_ble_eq_true rfl⟩) hK hN hP hD rfl rfl rfl hl.1 rfl (Nat.le_of_ble_eq_true rfl) dX9_isLaying_9 ⟨Nat.le_of_ble_eq_true rfl, Nat.le_of_ble_eq_true rfl⟩ ?_
    refine lv_icmp_ge (tgt := 19) hx hb dX9_isLaying_12 (by decide) (fun c_13 => ?_) (fun c_13 => ?_)
    · refine lv_iconst (v := 0) hx hb dX9_isLaying_19 (by decide) ?_
      exact wret_z hx hb hr hlocks rfl (J, I, (va_up O 5 (some r_2)), R, RO, [(r_2, .inr (3, [.ref g_3, .ref g_4, .long g_5, .int g_6])), (g_3, .inl (cy 0, 16640, .inl g_7)), (g_4, .inl (cy 0, 512, .inl g_8))], Y) ⟨(some r_2), ([(r_2, .inr (3, [.ref g_3, .ref g_4, .long g_5, .int g_6])), (g_3, .inl (cy 0, 16640, .inl g_7)), (g_4, .inl (cy 0, 512, .inl g_8))]), ⟨(by rw [ic_2 (kt_eq hRA.1 hjf_11 htt_12) (i32_nlt c_13)]; rfl), (Or.inr ⟨_, _, _, _, _, _, _, rfl, hkn_9, htb_10, rfl⟩)⟩, rfl⟩ hP hD hS dX9_isLaying_20
    · refine lv_iconst (v := 1) hx hb dX9_isLaying_15 (by decide) ?_
      refine lv_goto (tgt := 20) hx hb dX9_isLaying_16 (by decide) ?_
      exact wret_z hx hb hr hlocks rfl (J, I, (va_up O 5 (some r_2)), R, RO, [(r_2, .inr (3, [.ref g_3, .ref g_4, .long g_5, .int g_6])), (g_3, .inl (cy 0, 16640, .inl g_7)), (g_4, .inl (cy 0, 512, .inl g_8))], Y) ⟨(some r_2), ([(r_2, .inr (3, [.ref g_3, .ref g_4, .long g_5, .int g_6])), (g_3, .inl (cy 0, 16640, .inl g_7)), (g_4, .inl (cy 0, 512, .inl g_8))]), ⟨(by rw [ic_3 (kt_eq hRA.1 hjf_11 htt_12) c_1 (i32_lt c_13)]; rfl), (Or.inr ⟨_, _, _, _, _, _, _, rfl, hkn_9, htb_10, rfl⟩)⟩, rfl⟩ hP hD hS dX9_isLaying_20
set_option maxHeartbeats 4000000 in
set_option maxRecDepth 100000 in
theorem x_X9_count (l : Launch) (D : va_G) (cy : Nat → ClassId) (a : Nat → Nat) (sz : Nat) (J : Nat → Int64) (I : Nat → Int32) (O : Nat → Option Nat) (R : Nat → Nat → Int32) (RO : Nat → Nat → Option Nat) (LL : va_W) (Y : va_W)  (fl : Int64) (S : List Int32) (P : List PE) (hRA : RCf Y (J 6) (O 7) (I 9) (RO 2) fl S P) (hM : CI a Y I O RO) (hL : LOK cy (O 5) LL) : Met l yX9_count wsX9_count ({ frames := 5, cells := 3, slots := 17156, locals := 119 }) (va_Pc [.ref (a 0)] (PW D cy sz (CT cy a J I O R RO (LL ++ Y)))) (va_Qi (fun r (u : TS) => ∃ (w0 : Option Nat), ∃ (LL9 : va_W), (r = (aCnt fl S) ∧ LOK cy w0 LL9) ∧ u = (J, I, (va_up O 5 w0), R, RO, LL9, Y)) (BW D (va_A (CT cy a J I O R RO (LL ++ Y)) sz) (CTu cy a)) (va_A (CT cy a J I O R RO (LL ++ Y)) sz)) 3 17156 (va_A (CT cy a J I O R RO (LL ++ Y)) sz) := by
  refine Met.ofW (cc := cX9_count) (maxL := 1) (ret := (some .int)) (by decide) rfl ?_
  intro p e s m args below meth c s₁ B hml hv
  obtain ⟨rfl, rfl, hP, hK, hN, hD0⟩ := hv
  have hx := B.exec
  have hb := B.bytes
  have hr := B.returns
  have hts := atoms_spec (ws := wsX9_count) B.pre
  have hown : s.vm.findClass RX9 = some m.cls := findClass_of_methodNamed B.named
  have hlocks := B.notSynchronized
  have hD := hD0.self (sz := s.heap.size)
  generalize hAe : va_A (CT cy a J I O R RO (LL ++ Y)) s.heap.size = A at hD ⊢
  have hA : ∀ q : Nat, s.heap.size ≤ q → A q := fun q h => by rw [← hAe]; exact Or.inr h
  have hS : va_S A s.heap s.heap [] := va_S.rf
  have hl := lv_entry ([.ref (a 0)]) (n := 1) (Nat.le_of_ble_eq_true rfl)
  rw [lg_entry_eq]
  generalize (lg_sl ([.ref (a 0)]) ++ List.replicate (1 - (lg_sl ([.ref (a 0)])).length) Slot.unset).toArray = ls at hl ⊢
  have hl : lv_has ls 1 [(0, .ref (a 0))] := hl
  have hRO0 := hM.2.2.2.2.2.2.2.2.1
  have hRO1 := hM.2.2.2.2.2.2.2.2.2.1
  have hRO2 := hM.2.2.2.2.2.2.2.2.2.2.1
  have hRO3 := hM.2.2.2.2.2.2.2.2.2.2.2
  have hP : va_P D vwCl (CT cy a J I (va_up O 5 (O 5)) R RO (LL ++ Y)) s.heap := hP
  have hD : va_D A (CT cy a J I (va_up O 5 (O 5)) R RO (LL ++ Y)) := hD
  refine lv_aload_n hx hb dX9_count_0 rfl (lv_at hl 0 rfl) ?_
  refine kM_r (As := []) (rest := []) (q0 := 0) ⟨hx, hb, hml, hown, hts⟩ (x_X9_knownLayings l D cy a _ J I (va_up O 5 (O 5)) R RO LL Y  fl S P hRA ⟨hM.1, hM.2.1, hM.2.2.1, hM.2.2.2.1, hM.2.2.2.2.1, hM.2.2.2.2.2.1, hM.2.2.2.2.2.2.1, hM.2.2.2.2.2.2.2.1, hRO0, hRO1, hRO2, hRO3⟩ hL) (cwV 0 hts gX9_count_X9_knownLayings rfl rfl rfl (by decide +kernel) ⟨Nat.le_of_ble_eq_true rfl, Nat.le_of_ble_eq_true rfl⟩) hK hN hP hD hS hA rfl rfl rfl hl.1 rfl (Nat.le_of_ble_eq_true rfl) dX9_count_1 ⟨Nat.le_of_ble_eq_true rfl, Nat.le_of_ble_eq_true rfl⟩ (fun u r_1 H locs hw hP hD hS => ?_)
  obtain ⟨g_2, g_3, g_4, g_5, g_6, g_7⟩ := u
  obtain ⟨hkn_8, htb_9, hjf_10, htt_11⟩ := hw
  dsimp only at hkn_8 htb_9 hjf_10 htt_11
  have hP : va_P D vwCl (CT cy a J I (va_up O 5 (some r_1)) R RO ([(r_1, .inr (3, [.ref g_2, .ref g_3, .long g_4, .int g_5])), (g_2, .inl (cy 0, 16640, .inl g_6)), (g_3, .inl (cy 0, 512, .inl g_7))] ++ Y)) H := hP
  have hD : va_D A (CT cy a J I (va_up O 5 (some r_1)) R RO ([(r_1, .inr (3, [.ref g_2, .ref g_3, .long g_4, .int g_5])), (g_2, .inl (cy 0, 16640, .inl g_6)), (g_3, .inl (cy 0, 512, .inl g_7))] ++ Y)) := hD
  refine kR_i (As := []) (rest := []) (q0 := 20) ⟨hx, hb, hml, hown, hts⟩ (t_X4_total l D cy a _ J I (va_up O 5 (some r_1)) R RO r_1 g_2 g_3 g_4 g_5 g_6 g_7 hkn_8 Y   ) (cwV 0 hts gX9_count_X4_total rfl rfl rfl (by decide +kernel) ⟨Nat.le_of_ble_eq_true rfl, Nat.le_of_ble_eq_true rfl⟩) hK hN hP hD rfl rfl rfl hl.1 rfl (Nat.le_of_ble_eq_true rfl) dX9_count_4 ⟨Nat.le_of_ble_eq_true rfl, Nat.le_of_ble_eq_true rfl⟩ ?_
  exact wret_i hx hb hr hlocks (J, I, (va_up O 5 (some r_1)), R, RO, [(r_1, .inr (3, [.ref g_2, .ref g_3, .long g_4, .int g_5])), (g_2, .inl (cy 0, 16640, .inl g_6)), (g_3, .inl (cy 0, 512, .inl g_7))], Y) ⟨(some r_1), ([(r_1, .inr (3, [.ref g_2, .ref g_3, .long g_4, .int g_5])), (g_2, .inl (cy 0, 16640, .inl g_6)), (g_3, .inl (cy 0, 512, .inl g_7))]), ⟨(kt_eq hRA.1 hjf_10 htt_11), (Or.inr ⟨_, _, _, _, _, _, _, rfl, hkn_8, htb_9, rfl⟩)⟩, rfl⟩ hP hD hS dX9_count_7
set_option maxHeartbeats 4000000 in
set_option maxRecDepth 100000 in
theorem x_X9_lay (l : Launch) (D : va_G) (cy : Nat → ClassId) (a : Nat → Nat) (sz : Nat) (J : Nat → Int64) (I : Nat → Int32) (O : Nat → Option Nat) (R : Nat → Nat → Int32) (RO : Nat → Nat → Option Nat) (LL : va_W) (Y : va_W) (x0 : Int32) (fl : Int64) (S : List Int32) (P : List PE) (hRA : RCf Y (J 6) (O 7) (I 9) (RO 2) fl S P) (hM : CI a Y I O RO) (hL : LOK cy (O 5) LL) : Met l yX9_lay wsX9_lay ({ frames := 6, cells := 7, slots := 34315, locals := 145 }) (va_Pc [.ref (a 0), .int x0] (PW D cy sz (CT cy a J I O R RO (LL ++ Y)))) (va_Qi (fun r (u : TS) => ∃ (w0 : Int32), ∃ (w1 : Option Nat), ∃ (w2 : Option Nat), ∃ (LL9 : va_W), ∃ (Y9 : va_W), (r = (aLay fl S x0) ∧ (layO Y9 w2) ∧ (∀ c, c ∈ Y → c ∈ Y9) ∧ LOK cy w1 LL9) ∧ u = (J, (va_up I 10 w0), (va_up (va_up O 5 w1) 8 w2), R, RO, LL9, Y9)) (BW D (va_A (CT cy a J I O R RO (LL ++ Y)) sz) (CTu cy a)) (va_A (CT cy a J I O R RO (LL ++ Y)) sz)) 7 34315 (va_A (CT cy a J I O R RO (LL ++ Y)) sz) := by
  refine Met.ofW (cc := cX9_lay) (maxL := 2) (ret := (some .int)) (by decide) rfl ?_
  intro p e s m args below meth c s₁ B hml hv
  obtain ⟨rfl, rfl, hP, hK, hN, hD0⟩ := hv
  have hx := B.exec
  have hb := B.bytes
  have hr := B.returns
  have hts := atoms_spec (ws := wsX9_lay) B.pre
  have hown : s.vm.findClass RX9 = some m.cls := findClass_of_methodNamed B.named
  have hlocks := B.notSynchronized
  have hw0 := hts (.fieldLink RX9 133 "ParquetLayer" "hand" "LParquetLayer$Laying;") (by decide +kernel)
  have hw1 := hts (.constant RX9 43 (-100001)) (by decide +kernel)
  have hi9 := ihX9_lay_9
  have hD := hD0.self (sz := s.heap.size)
  generalize hAe : va_A (CT cy a J I O R RO (LL ++ Y)) s.heap.size = A at hD ⊢
  have hA : ∀ q : Nat, s.heap.size ≤ q → A q := fun q h => by rw [← hAe]; exact Or.inr h
  have hS : va_S A s.heap s.heap [] := va_S.rf
  have hl := lv_entry ([.ref (a 0), .int x0]) (n := 2) (Nat.le_of_ble_eq_true rfl)
  rw [lg_entry_eq]
  generalize (lg_sl ([.ref (a 0), .int x0]) ++ List.replicate (2 - (lg_sl ([.ref (a 0), .int x0])).length) Slot.unset).toArray = ls at hl ⊢
  have hl : lv_has ls 2 [(0, .ref (a 0)), (1, .int x0)] := hl
  have hRO0 := hM.2.2.2.2.2.2.2.2.1
  have hRO1 := hM.2.2.2.2.2.2.2.2.2.1
  have hRO2 := hM.2.2.2.2.2.2.2.2.2.2.1
  have hRO3 := hM.2.2.2.2.2.2.2.2.2.2.2
  have hP : va_P D vwCl (CT cy a J (va_up I 10 (I 10)) (va_up (va_up O 5 (O 5)) 8 (O 8)) R RO (LL ++ Y)) s.heap := hP
  have hD : va_D A (CT cy a J (va_up I 10 (I 10)) (va_up (va_up O 5 (O 5)) 8 (O 8)) R RO (LL ++ Y)) := hD
  refine lv_aload_n hx hb dX9_lay_0 rfl (lv_at hl 0 rfl) ?_
  refine lv_iload_n hx hb dX9_lay_1 rfl (lv_at hl 1 rfl) ?_
  refine kM_i (As := [.int x0]) (rest := []) (q0 := 0) ⟨hx, hb, hml, hown, hts⟩ (x_X9_isLaying l D cy a _ J (va_up I 10 (I 10)) (va_up (va_up O 5 (O 5)) 8 (O 8)) R RO LL Y x0 fl S P hRA ⟨hM.1, hM.2.1, hM.2.2.1, hM.2.2.2.1, hM.2.2.2.2.1, hM.2.2.2.2.2.1, hM.2.2.2.2.2.2.1, hM.2.2.2.2.2.2.2.1, hRO0, hRO1, hRO2, hRO3⟩ hL) (cwV 1 hts gX9_lay_X9_isLaying rfl rfl rfl (by decide +kernel) ⟨Nat.le_of_ble_eq_true rfl, Nat.le_of_ble_eq_true rfl⟩) hK hN hP hD hS hA rfl rfl rfl hl.1 rfl (Nat.le_of_ble_eq_true rfl) dX9_lay_2 ⟨Nat.le_of_ble_eq_true rfl, Nat.le_of_ble_eq_true rfl⟩ (fun r_1 u H locs hw hP hD hS => ?_)
  obtain ⟨w_2, LL_3, ⟨rfl, hL_4⟩, rfl⟩ := hw
  have hP : va_P D vwCl (CT cy a J (va_up I 10 (I 10)) (va_up (va_up O 5 w_2) 8 (O 8)) R RO (LL_3 ++ Y)) H := hP
  have hD : va_D A (CT cy a J (va_up I 10 (I 10)) (va_up (va_up O 5 w_2) 8 (O 8)) R RO (LL_3 ++ Y)) := hD
  refine lv_if_ne (tgt := 15) hx hb dX9_lay_5 (by decide) (fun c_5 => ?_) (fun c_5 => ?_)
  · replace c_5 := bI_t c_5
    refine lv_aload_n hx hb dX9_lay_15 rfl (lv_at hl 0 rfl) ?_
    refine lv_aload_n hx hb dX9_lay_16 rfl (lv_at hl 0 rfl) ?_
    refine lv_iload_n hx hb dX9_lay_17 rfl (lv_at hl 1 rfl) ?_
    refine kM_r (As := [.int x0]) (rest := [.ref (a 0)]) (q0 := 0) ⟨hx, hb, hml, hown, hts⟩ (t_X9_layingOf l D cy a _ J (va_up I 10 (I 10)) (va_up (va_up O 5 w_2) 8 (O 8)) R RO LL_3 Y x0  ⟨hM.1, hM.2.1, hM.2.2.1, hM.2.2.2.1, hM.2.2.2.2.1, hM.2.2.2.2.2.1, hM.2.2.2.2.2.2.1, hM.2.2.2.2.2.2.2.1, hRO0, hRO1, hRO2, hRO3⟩ hL_4) (cwV 1 hts gX9_lay_X9_layingOf rfl rfl rfl (by decide +kernel) ⟨Nat.le_of_ble_eq_true rfl, Nat.le_of_ble_eq_true rfl⟩) hK hN hP hD hS hA rfl rfl rfl hl.1 rfl (Nat.le_of_ble_eq_true rfl) dX9_lay_18 ⟨Nat.le_of_ble_eq_true rfl, Nat.le_of_ble_eq_true rfl⟩ (fun u r_6 H locs hw hP hD hS => ?_)
    obtain ⟨g_7, g_8, g_9, g_10⟩ := u
    have hL_11 : LOK cy g_7 g_8 := hw
    have hs_12 : ∀ c, c ∈ Y → c ∈ (Y ++ [laC r_6 x0 g_9 g_10]) := fun c h => List.mem_append_left _ h
    have hi_13 : chO (Y ++ [laC r_6 x0 g_9 g_10]) (O 7) := chO_mono hs_12 hM.2.1
    have hi_14 : layO (Y ++ [laC r_6 x0 g_9 g_10]) (O 8) := layO_mono hs_12 hM.2.2.1
    have hi_15 : ∀ i, i < 20 → pasO (Y ++ [laC r_6 x0 g_9 g_10]) ((RO 2) i) := pas_mono hs_12 hM.2.2.2.1
    have hmono_16 : ∀ c, c ∈ Y → c ∈ (Y ++ [laC r_6 x0 g_9 g_10]) := fun c h => hs_12 c ((fun _ h => h) c h)
    have hP : va_P D vwCl (CT cy a J (va_up I 10 (I 10)) (va_up (va_up O 5 g_7) 8 (O 8)) R RO (g_8 ++ (Y ++ [laC r_6 x0 g_9 g_10]))) H := hP
    have hD : va_D A (CT cy a J (va_up I 10 (I 10)) (va_up (va_up O 5 g_7) 8 (O 8)) R RO (g_8 ++ (Y ++ [laC r_6 x0 g_9 g_10]))) := hD
    refine va_put (D := D) (ci := 8) (v := .ref r_6) (ty := .object "ParquetLayer$Laying") (C := RX9) (T := TX9) (N := 11) hx hb hts hi9 tyX9 tyX9_ok nmX9 hown hK hP hD hS 0 rfl rfl 8 (by decide) hw0 (fun _ h9 => h9) rfl (by decide +kernel) rfl rfl (Nat.le_of_ble_eq_true rfl) dX9_lay_21 (fun H locs hP hD hS => ?_)
    have hP : va_P D vwCl (CT cy a J (va_up I 10 (I 10)) (va_up (va_up O 5 g_7) 8 (some r_6)) R RO (g_8 ++ (Y ++ [laC r_6 x0 g_9 g_10]))) H := hP
    have hD : va_D A (CT cy a J (va_up I 10 (I 10)) (va_up (va_up O 5 g_7) 8 (some r_6)) R RO (g_8 ++ (Y ++ [laC r_6 x0 g_9 g_10]))) := hD
    have hi_17 : layO (Y ++ [laC r_6 x0 g_9 g_10]) (some r_6) := (Or.inr ⟨_, _, _, _, rfl, mem_last⟩)
    refine lv_iconst (v := 1) hx hb dX9_lay_24 (by decide) ?_
    exact wret_i hx hb hr hlocks (J, (va_up I 10 (I 10)), (va_up (va_up O 5 g_7) 8 (some r_6)), R, RO, g_8, Y ++ [laC r_6 x0 g_9 g_10]) ⟨(I 10), g_7, (some r_6), g_8, (Y ++ [laC r_6 x0 g_9 g_10]), ⟨(ly_t c_5), hi_17, hmono_16, hL_11⟩, rfl⟩ hP hD hS dX9_lay_25
  · replace c_5 := bI_f c_5
    refine lv_aload_n hx hb dX9_lay_8 rfl (lv_at hl 0 rfl) ?_
    refine lv_ldc (v := (-100001)) hx hb hown hw1 dX9_lay_9 ?_
    refine kM_i (As := [.int (-100001)]) (rest := []) (q0 := 0) ⟨hx, hb, hml, hown, hts⟩ (t_X9_finding l D cy a _ J (va_up I 10 (I 10)) (va_up (va_up O 5 w_2) 8 (O 8)) R RO LL_3 Y ((-100001) : Int32)   ) (cwV 1 hts gX9_lay_X9_finding rfl rfl rfl (by decide +kernel) ⟨Nat.le_of_ble_eq_true rfl, Nat.le_of_ble_eq_true rfl⟩) hK hN hP hD hS hA rfl rfl rfl hl.1 rfl (Nat.le_of_ble_eq_true rfl) dX9_lay_11 ⟨Nat.le_of_ble_eq_true rfl, Nat.le_of_ble_eq_true rfl⟩ (fun r_18 u H locs hw hP hD hS => ?_)
    obtain ⟨w_19, rfl, rfl⟩ := hw
    have hP : va_P D vwCl (CT cy a J (va_up I 10 w_19) (va_up (va_up O 5 w_2) 8 (O 8)) R RO (LL_3 ++ Y)) H := hP
    have hD : va_D A (CT cy a J (va_up I 10 w_19) (va_up (va_up O 5 w_2) 8 (O 8)) R RO (LL_3 ++ Y)) := hD
    refine W.widen (k := 7) (n := 34315) (Nat.le_of_ble_eq_true rfl) (Nat.le_of_ble_eq_true rfl) ?_
    exact wret_i hx hb hr hlocks (J, (va_up I 10 w_19), (va_up (va_up O 5 w_2) 8 (O 8)), R, RO, LL_3, Y) ⟨w_19, w_2, (O 8), LL_3, Y, ⟨(ly_f c_5), hM.2.2.1, (fun _ h => h), hL_4⟩, rfl⟩ hP hD hS dX9_lay_14
set_option maxHeartbeats 4000000 in
set_option maxRecDepth 100000 in
theorem x_X9_with (l : Launch) (D : va_G) (cy : Nat → ClassId) (a : Nat → Nat) (sz : Nat) (J : Nat → Int64) (I : Nat → Int32) (O : Nat → Option Nat) (R : Nat → Nat → Int32) (RO : Nat → Nat → Option Nat) (LL : va_W) (Y : va_W) (x0 : Int32) (x1 : Bool) (fl : Int64) (S : List Int32) (P : List PE) (hRA : RCf Y (J 6) (O 7) (I 9) (RO 2) fl S P) (hM : CI a Y I O RO) (hL : LOK cy (O 5) LL) : Met l yX9_with wsX9_with ({ frames := 5, cells := 3, slots := 17156, locals := 119 }) (va_Pc [.ref (a 0), .int x0, .int (bI x1)] (PW D cy sz (CT cy a J I O R RO (LL ++ Y)))) (va_Qi (fun r (u : TS) => ∃ (w0 : Int32), ∃ (w1 : Option Nat), ∃ (LL9 : va_W), (r = (aWith fl S x0 x1) ∧ LOK cy w1 LL9) ∧ u = (J, (va_up I 10 w0), (va_up O 5 w1), R, RO, LL9, Y)) (BW D (va_A (CT cy a J I O R RO (LL ++ Y)) sz) (CTu cy a)) (va_A (CT cy a J I O R RO (LL ++ Y)) sz)) 3 17156 (va_A (CT cy a J I O R RO (LL ++ Y)) sz) := by
  refine Met.ofW (cc := cX9_with) (maxL := 5) (ret := (some .int)) (by decide) rfl ?_
  intro p e s m args below meth c s₁ B hml hv
  obtain ⟨rfl, rfl, hP, hK, hN, hD0⟩ := hv
  have hx := B.exec
  have hb := B.bytes
  have hr := B.returns
  have hts := atoms_spec (ws := wsX9_with) B.pre
  have hown : s.vm.findClass RX9 = some m.cls := findClass_of_methodNamed B.named
  have hlocks := B.notSynchronized
  have hw0 := hts (.constant RX9 99 (-100003)) (by decide +kernel)
  have hw1 := hts (.constant RX9 43 (-100001)) (by decide +kernel)
  have hD := hD0.self (sz := s.heap.size)
  generalize hAe : va_A (CT cy a J I O R RO (LL ++ Y)) s.heap.size = A at hD ⊢
  have hA : ∀ q : Nat, s.heap.size ≤ q → A q := fun q h => by rw [← hAe]; exact Or.inr h
  have hS : va_S A s.heap s.heap [] := va_S.rf
  have hl := lv_entry ([.ref (a 0), .int x0, .int (bI x1)]) (n := 5) (Nat.le_of_ble_eq_true rfl)
  rw [lg_entry_eq]
  generalize (lg_sl ([.ref (a 0), .int x0, .int (bI x1)]) ++ List.replicate (5 - (lg_sl ([.ref (a 0), .int x0, .int (bI x1)])).length) Slot.unset).toArray = ls at hl ⊢
  have hl : lv_has ls 5 [(0, .ref (a 0)), (1, .int x0), (2, .int (bI x1))] := hl
  have hRO0 := hM.2.2.2.2.2.2.2.2.1
  have hRO1 := hM.2.2.2.2.2.2.2.2.2.1
  have hRO2 := hM.2.2.2.2.2.2.2.2.2.2.1
  have hRO3 := hM.2.2.2.2.2.2.2.2.2.2.2
  have hP : va_P D vwCl (CT cy a J (va_up I 10 (I 10)) (va_up O 5 (O 5)) R RO (LL ++ Y)) s.heap := hP
  have hD : va_D A (CT cy a J (va_up I 10 (I 10)) (va_up O 5 (O 5)) R RO (LL ++ Y)) := hD
  refine lv_iload_n hx hb dX9_with_0 rfl (lv_at hl 1 rfl) ?_
  refine kS_i (As := [.int x0]) (rest := []) ⟨hx, hb, hml, hown, hts⟩ (c_X1_isField l x0) (va_cwS 1 hts gX9_with_X1_isField rfl rfl rfl (by decide +kernel) ⟨Nat.le_of_ble_eq_true rfl, Nat.le_of_ble_eq_true rfl⟩) rfl hl.1 rfl (Nat.le_of_ble_eq_true rfl) dX9_with_1 ⟨Nat.le_of_ble_eq_true rfl, Nat.le_of_ble_eq_true rfl⟩ ?_
  refine lv_if_ne (tgt := 14) hx hb dX9_with_4 (by decide) (fun c_1 => ?_) (fun c_1 => ?_)
  · replace c_1 := bI_t c_1
    refine lv_aload_n hx hb dX9_with_14 rfl (lv_at hl 0 rfl) ?_
    refine lv_iload_n hx hb dX9_with_15 rfl (lv_at hl 1 rfl) ?_
    refine lv_iload_n hx hb dX9_with_16 rfl (lv_at hl 2 rfl) ?_
    refine kR_i (As := [.int x0, .int (bI x1)]) (rest := []) (q0 := 0) ⟨hx, hb, hml, hown, hts⟩ (x_X9_isPlace l D cy a _ J (va_up I 10 (I 10)) (va_up O 5 (O 5)) R RO LL Y x0 x1  ) (cwV 2 hts gX9_with_X9_isPlace rfl rfl rfl (by decide +kernel) ⟨Nat.le_of_ble_eq_true rfl, Nat.le_of_ble_eq_true rfl⟩) hK hN hP hD rfl rfl rfl hl.1 rfl (Nat.le_of_ble_eq_true rfl) dX9_with_17 ⟨Nat.le_of_ble_eq_true rfl, Nat.le_of_ble_eq_true rfl⟩ ?_
    refine lv_if_ne (tgt := 30) hx hb dX9_with_20 (by decide) (fun c_2 => ?_) (fun c_2 => ?_)
    · replace c_2 := bI_t c_2
      refine lv_aload_n hx hb dX9_with_30 rfl (lv_at hl 0 rfl) ?_
      refine lv_iload_n hx hb dX9_with_31 rfl (lv_at hl 1 rfl) ?_
      refine lv_iload_n hx hb dX9_with_32 rfl (lv_at hl 2 rfl) ?_
      refine kR_i (As := [.int x0, .int (bI x1)]) (rest := []) (q0 := 0) ⟨hx, hb, hml, hown, hts⟩ (x_X9_isGluedPlace l D cy a _ J (va_up I 10 (I 10)) (va_up O 5 (O 5)) R RO LL Y x0 x1 fl S P hRA ⟨hM.1, hM.2.1, hM.2.2.1, hM.2.2.2.1, hM.2.2.2.2.1, hM.2.2.2.2.2.1, hM.2.2.2.2.2.2.1, hM.2.2.2.2.2.2.2.1, hRO0, hRO1, hRO2, hRO3⟩) (cwV 2 hts gX9_with_X9_isGluedPlace rfl rfl rfl (by decide +kernel) ⟨Nat.le_of_ble_eq_true rfl, Nat.le_of_ble_eq_true rfl⟩) hK hN hP hD rfl rfl rfl hl.1 rfl (Nat.le_of_ble_eq_true rfl) dX9_with_33 ⟨Nat.le_of_ble_eq_true rfl, Nat.le_of_ble_eq_true rfl⟩ ?_
      refine lv_if_eq (tgt := 47) hx hb dX9_with_36 (by decide) (fun c_3 => ?_) (fun c_3 => ?_)
      · replace c_3 := bI_f c_3
        refine lv_iload_n hx hb dX9_with_47 rfl (lv_at hl 1 rfl) ?_
        refine lv_iload_n hx hb dX9_with_48 rfl (lv_at hl 2 rfl) ?_
        refine kS_l (As := [.int x0, .int (bI x1)]) (rest := []) ⟨hx, hb, hml, hown, hts⟩ (c_X1_place l x0 x1) (va_cwS 2 hts gX9_with_X1_place rfl rfl rfl (by decide +kernel) ⟨Nat.le_of_ble_eq_true rfl, Nat.le_of_ble_eq_true rfl⟩) rfl hl.1 rfl (Nat.le_of_ble_eq_true rfl) dX9_with_49 ⟨Nat.le_of_ble_eq_true rfl, Nat.le_of_ble_eq_true rfl⟩ ?_
        refine lv_lstore_n (lv' := [(3, .long (g_place x0 x1)), (0, .ref (a 0)), (1, .int x0), (2, .int (bI x1))]) hx hb dX9_with_52 rfl hl (by decide) rfl (fun ls hl => ?_)
        refine lv_lload_n hx hb dX9_with_53 rfl (lv_at hl 0 rfl) ?_
        refine lv_aload_n hx hb dX9_with_54 rfl (lv_at hl 1 rfl) ?_
        refine kR_l (As := []) (rest := [.long (g_place x0 x1)]) (q0 := 0) ⟨hx, hb, hml, hown, hts⟩ (x_X9_gluedFields l D cy a _ J (va_up I 10 (I 10)) (va_up O 5 (O 5)) R RO LL Y  fl S P hRA ⟨hM.1, hM.2.1, hM.2.2.1, hM.2.2.2.1, hM.2.2.2.2.1, hM.2.2.2.2.2.1, hM.2.2.2.2.2.2.1, hM.2.2.2.2.2.2.2.1, hRO0, hRO1, hRO2, hRO3⟩) (cwV 0 hts gX9_with_X9_gluedFields rfl rfl rfl (by decide +kernel) ⟨Nat.le_of_ble_eq_true rfl, Nat.le_of_ble_eq_true rfl⟩) hK hN hP hD rfl rfl rfl hl.1 rfl (Nat.le_of_ble_eq_true rfl) dX9_with_55 ⟨Nat.le_of_ble_eq_true rfl, Nat.le_of_ble_eq_true rfl⟩ ?_
        refine lv_land hx hb dX9_with_58 ?_
        refine lv_lconst (v := 0) hx hb dX9_with_59 (by decide) ?_
        refine W.lcmp hx hb dX9_with_60 ?_
        refine lv_if_eq (tgt := 66) hx hb dX9_with_61 (by decide) (fun c_4 => ?_) (fun c_4 => ?_)
        · replace c_4 := (lg_cmp_eq _ _).mp c_4
          refine lv_aload_n hx hb dX9_with_66 rfl (lv_at hl 1 rfl) ?_
          refine kM_r (As := []) (rest := []) (q0 := 0) ⟨hx, hb, hml, hown, hts⟩ (x_X9_knownLayings l D cy a _ J (va_up I 10 (I 10)) (va_up O 5 (O 5)) R RO LL Y  fl S P hRA ⟨hM.1, hM.2.1, hM.2.2.1, hM.2.2.2.1, hM.2.2.2.2.1, hM.2.2.2.2.2.1, hM.2.2.2.2.2.2.1, hM.2.2.2.2.2.2.2.1, hRO0, hRO1, hRO2, hRO3⟩ hL) (cwV 0 hts gX9_with_X9_knownLayings rfl rfl rfl (by decide +kernel) ⟨Nat.le_of_ble_eq_true rfl, Nat.le_of_ble_eq_true rfl⟩) hK hN hP hD hS hA rfl rfl rfl hl.1 rfl (Nat.le_of_ble_eq_true rfl) dX9_with_67 ⟨Nat.le_of_ble_eq_true rfl, Nat.le_of_ble_eq_true rfl⟩ (fun u r_5 H locs hw hP hD hS => ?_)
          obtain ⟨g_6, g_7, g_8, g_9, g_10, g_11⟩ := u
          obtain ⟨hkn_12, htb_13, hjf_14, htt_15⟩ := hw
          dsimp only at hkn_12 htb_13 hjf_14 htt_15
          have hP : va_P D vwCl (CT cy a J (va_up I 10 (I 10)) (va_up O 5 (some r_5)) R RO ([(r_5, .inr (3, [.ref g_6, .ref g_7, .long g_8, .int g_9])), (g_6, .inl (cy 0, 16640, .inl g_10)), (g_7, .inl (cy 0, 512, .inl g_11))] ++ Y)) H := hP
          have hD : va_D A (CT cy a J (va_up I 10 (I 10)) (va_up O 5 (some r_5)) R RO ([(r_5, .inr (3, [.ref g_6, .ref g_7, .long g_8, .int g_9])), (g_6, .inl (cy 0, 16640, .inl g_10)), (g_7, .inl (cy 0, 512, .inl g_11))] ++ Y)) := hD
          refine lv_lload_n hx hb dX9_with_70 rfl (lv_at hl 0 rfl) ?_
          refine kM_i (As := [.long (g_place x0 x1)]) (rest := []) (q0 := 20) ⟨hx, hb, hml, hown, hts⟩ (t_X4_totalWithout l D cy a _ J (va_up I 10 (I 10)) (va_up O 5 (some r_5)) R RO r_5 g_6 g_7 g_8 g_9 g_10 g_11 hkn_12 Y (g_place x0 x1)   ) (cwV 1 hts gX9_with_X4_totalWithout rfl rfl rfl (by decide +kernel) ⟨Nat.le_of_ble_eq_true rfl, Nat.le_of_ble_eq_true rfl⟩) hK hN hP hD hS hA rfl rfl rfl hl.1 rfl (Nat.le_of_ble_eq_true rfl) dX9_with_71 ⟨Nat.le_of_ble_eq_true rfl, Nat.le_of_ble_eq_true rfl⟩ (fun r_16 u H locs hw hP hD hS => ?_)
          obtain ⟨g_17, rfl, rfl⟩ := hw
          have hP : va_P D vwCl (CT cy a J (va_up I 10 (I 10)) (va_up O 5 (some r_5)) R RO ([(r_5, .inr (3, [.ref g_6, .ref g_7, .long g_8, .int g_9])), (g_6, .inl (cy 0, 16640, .inl g_10)), (g_7, .inl (cy 0, 512, .inl g_17))] ++ Y)) H := hP
          have hD : va_D A (CT cy a J (va_up I 10 (I 10)) (va_up O 5 (some r_5)) R RO ([(r_5, .inr (3, [.ref g_6, .ref g_7, .long g_8, .int g_9])), (g_6, .inl (cy 0, 16640, .inl g_10)), (g_7, .inl (cy 0, 512, .inl g_17))] ++ Y)) := hD
          exact wret_i hx hb hr hlocks (J, (va_up I 10 (I 10)), (va_up O 5 (some r_5)), R, RO, [(r_5, .inr (3, [.ref g_6, .ref g_7, .long g_8, .int g_9])), (g_6, .inl (cy 0, 16640, .inl g_10)), (g_7, .inl (cy 0, 512, .inl g_17))], Y) ⟨(I 10), (some r_5), ([(r_5, .inr (3, [.ref g_6, .ref g_7, .long g_8, .int g_9])), (g_6, .inl (cy 0, 16640, .inl g_10)), (g_7, .inl (cy 0, 512, .inl g_17))]), ⟨((kw_eq hRA.1 hjf_14 c_1 rfl).trans (aw5 (by rw [← isF_eq]; exact c_1) (pl_yes hRA.1 c_1 c_2).1 (pl_yes hRA.1 c_1 c_2).2 (by rw [← gSt_gl c_1]; exact c_3) (by rw [← gpm c_1]; exact c_4))), (Or.inr ⟨_, _, _, _, _, _, _, rfl, hkn_12, htb_13, rfl⟩)⟩, rfl⟩ hP hD hS dX9_with_74
        · replace c_4 := fun z => c_4 ((lg_cmp_eq _ _).mpr z)
          refine lv_iconst (v := 0) hx hb dX9_with_64 (by decide) ?_
          refine W.widen (k := 3) (n := 17156) (Nat.le_of_ble_eq_true rfl) (Nat.le_of_ble_eq_true rfl) ?_
          exact wret_i hx hb hr hlocks (J, (va_up I 10 (I 10)), (va_up O 5 (O 5)), R, RO, LL, Y) ⟨(I 10), (O 5), LL, ⟨(aw4 (by rw [← isF_eq]; exact c_1) (pl_yes hRA.1 c_1 c_2).1 (pl_yes hRA.1 c_1 c_2).2 (by rw [← gSt_gl c_1]; exact c_3) (by rw [← gpm c_1]; exact c_4)), hL⟩, rfl⟩ hP hD hS dX9_with_65
      · replace c_3 := bI_t c_3
        refine lv_aload_n hx hb dX9_with_39 rfl (lv_at hl 0 rfl) ?_
        refine kM_r (As := []) (rest := []) (q0 := 0) ⟨hx, hb, hml, hown, hts⟩ (x_X9_knownLayings l D cy a _ J (va_up I 10 (I 10)) (va_up O 5 (O 5)) R RO LL Y  fl S P hRA ⟨hM.1, hM.2.1, hM.2.2.1, hM.2.2.2.1, hM.2.2.2.2.1, hM.2.2.2.2.2.1, hM.2.2.2.2.2.2.1, hM.2.2.2.2.2.2.2.1, hRO0, hRO1, hRO2, hRO3⟩ hL) (cwV 0 hts gX9_with_X9_knownLayings rfl rfl rfl (by decide +kernel) ⟨Nat.le_of_ble_eq_true rfl, Nat.le_of_ble_eq_true rfl⟩) hK hN hP hD hS hA rfl rfl rfl hl.1 rfl (Nat.le_of_ble_eq_true rfl) dX9_with_40 ⟨Nat.le_of_ble_eq_true rfl, Nat.le_of_ble_eq_true rfl⟩ (fun u r_18 H locs hw hP hD hS => ?_)
        obtain ⟨g_19, g_20, g_21, g_22, g_23, g_24⟩ := u
        obtain ⟨hkn_25, htb_26, hjf_27, htt_28⟩ := hw
        dsimp only at hkn_25 htb_26 hjf_27 htt_28
        have hP : va_P D vwCl (CT cy a J (va_up I 10 (I 10)) (va_up O 5 (some r_18)) R RO ([(r_18, .inr (3, [.ref g_19, .ref g_20, .long g_21, .int g_22])), (g_19, .inl (cy 0, 16640, .inl g_23)), (g_20, .inl (cy 0, 512, .inl g_24))] ++ Y)) H := hP
        have hD : va_D A (CT cy a J (va_up I 10 (I 10)) (va_up O 5 (some r_18)) R RO ([(r_18, .inr (3, [.ref g_19, .ref g_20, .long g_21, .int g_22])), (g_19, .inl (cy 0, 16640, .inl g_23)), (g_20, .inl (cy 0, 512, .inl g_24))] ++ Y)) := hD
        refine kR_i (As := []) (rest := []) (q0 := 20) ⟨hx, hb, hml, hown, hts⟩ (t_X4_total l D cy a _ J (va_up I 10 (I 10)) (va_up O 5 (some r_18)) R RO r_18 g_19 g_20 g_21 g_22 g_23 g_24 hkn_25 Y   ) (cwV 0 hts gX9_with_X4_total rfl rfl rfl (by decide +kernel) ⟨Nat.le_of_ble_eq_true rfl, Nat.le_of_ble_eq_true rfl⟩) hK hN hP hD rfl rfl rfl hl.1 rfl (Nat.le_of_ble_eq_true rfl) dX9_with_43 ⟨Nat.le_of_ble_eq_true rfl, Nat.le_of_ble_eq_true rfl⟩ ?_
        exact wret_i hx hb hr hlocks (J, (va_up I 10 (I 10)), (va_up O 5 (some r_18)), R, RO, [(r_18, .inr (3, [.ref g_19, .ref g_20, .long g_21, .int g_22])), (g_19, .inl (cy 0, 16640, .inl g_23)), (g_20, .inl (cy 0, 512, .inl g_24))], Y) ⟨(I 10), (some r_18), ([(r_18, .inr (3, [.ref g_19, .ref g_20, .long g_21, .int g_22])), (g_19, .inl (cy 0, 16640, .inl g_23)), (g_20, .inl (cy 0, 512, .inl g_24))]), ⟨((kt_eq hRA.1 hjf_27 htt_28).trans (aw3 (by rw [← isF_eq]; exact c_1) (pl_yes hRA.1 c_1 c_2).1 (pl_yes hRA.1 c_1 c_2).2 (by rw [← gSt_gl c_1]; exact c_3))), (Or.inr ⟨_, _, _, _, _, _, _, rfl, hkn_25, htb_26, rfl⟩)⟩, rfl⟩ hP hD hS dX9_with_46
    · replace c_2 := bI_f c_2
      refine lv_aload_n hx hb dX9_with_23 rfl (lv_at hl 0 rfl) ?_
      refine lv_ldc (v := (-100003)) hx hb hown hw0 dX9_with_24 ?_
      refine kM_i (As := [.int (-100003)]) (rest := []) (q0 := 0) ⟨hx, hb, hml, hown, hts⟩ (t_X9_finding l D cy a _ J (va_up I 10 (I 10)) (va_up O 5 (O 5)) R RO LL Y ((-100003) : Int32)   ) (cwV 1 hts gX9_with_X9_finding rfl rfl rfl (by decide +kernel) ⟨Nat.le_of_ble_eq_true rfl, Nat.le_of_ble_eq_true rfl⟩) hK hN hP hD hS hA rfl rfl rfl hl.1 rfl (Nat.le_of_ble_eq_true rfl) dX9_with_26 ⟨Nat.le_of_ble_eq_true rfl, Nat.le_of_ble_eq_true rfl⟩ (fun r_29 u H locs hw hP hD hS => ?_)
      obtain ⟨w_30, rfl, rfl⟩ := hw
      have hP : va_P D vwCl (CT cy a J (va_up I 10 w_30) (va_up O 5 (O 5)) R RO (LL ++ Y)) H := hP
      have hD : va_D A (CT cy a J (va_up I 10 w_30) (va_up O 5 (O 5)) R RO (LL ++ Y)) := hD
      refine W.widen (k := 3) (n := 17156) (Nat.le_of_ble_eq_true rfl) (Nat.le_of_ble_eq_true rfl) ?_
      exact wret_i hx hb hr hlocks (J, (va_up I 10 w_30), (va_up O 5 (O 5)), R, RO, LL, Y) ⟨w_30, (O 5), LL, ⟨(aw2 (by rw [← isF_eq]; exact c_1) (pl_no hRA.1 c_1 c_2)), hL⟩, rfl⟩ hP hD hS dX9_with_29
  · replace c_1 := bI_f c_1
    refine lv_aload_n hx hb dX9_with_7 rfl (lv_at hl 0 rfl) ?_
    refine lv_ldc (v := (-100001)) hx hb hown hw1 dX9_with_8 ?_
    refine kM_i (As := [.int (-100001)]) (rest := []) (q0 := 0) ⟨hx, hb, hml, hown, hts⟩ (t_X9_finding l D cy a _ J (va_up I 10 (I 10)) (va_up O 5 (O 5)) R RO LL Y ((-100001) : Int32)   ) (cwV 1 hts gX9_with_X9_finding rfl rfl rfl (by decide +kernel) ⟨Nat.le_of_ble_eq_true rfl, Nat.le_of_ble_eq_true rfl⟩) hK hN hP hD hS hA rfl rfl rfl hl.1 rfl (Nat.le_of_ble_eq_true rfl) dX9_with_10 ⟨Nat.le_of_ble_eq_true rfl, Nat.le_of_ble_eq_true rfl⟩ (fun r_31 u H locs hw hP hD hS => ?_)
    obtain ⟨w_32, rfl, rfl⟩ := hw
    have hP : va_P D vwCl (CT cy a J (va_up I 10 w_32) (va_up O 5 (O 5)) R RO (LL ++ Y)) H := hP
    have hD : va_D A (CT cy a J (va_up I 10 w_32) (va_up O 5 (O 5)) R RO (LL ++ Y)) := hD
    refine W.widen (k := 3) (n := 17156) (Nat.le_of_ble_eq_true rfl) (Nat.le_of_ble_eq_true rfl) ?_
    exact wret_i hx hb hr hlocks (J, (va_up I 10 w_32), (va_up O 5 (O 5)), R, RO, LL, Y) ⟨w_32, (O 5), LL, ⟨(aw1 (by rw [← isF_eq]; exact c_1)), hL⟩, rfl⟩ hP hD hS dX9_with_13
