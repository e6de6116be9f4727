set_option maxHeartbeats 4000000 in
set_option maxRecDepth 100000 in
theorem x_X9_isWhole (l : Launch) (D : va_G) (cy : Nat → ClassId) (a : Nat → Nat) (sz : Nat) (J : Nat → Int64) (I : Nat → Int32) (O : Nat → Option Nat) (R : Nat → Nat → Int32) (RO : Nat → Nat → Option Nat) (LL : va_W) (Y : va_W)  (fl : Int64) (S : List Int32) (P : List PE) (hRA : RCf Y (J 6) (O 7) (I 9) (RO 2) fl S P) (hM : CI a Y I O RO) : Met l yX9_isWhole wsX9_isWhole ({ frames := 4, cells := 0, slots := 0, locals := 95 }) (va_Pc [.ref (a 0)] (PW D cy sz (CT cy a J I O R RO (LL ++ Y)))) (vp_Si (fun r => r = bI (aWh fl S))) 0 0 (fun _ => False) := by
  refine Met.ofW (cc := cX9_isWhole) (maxL := 1) (ret := (some .boolean)) (by decide) rfl ?_
  intro p e s m args below meth c s₁ B hml hv
  obtain ⟨rfl, rfl, hP, hK, hN, hD0⟩ := hv
  have hx := B.exec
  have hb := B.bytes
  have hr := B.returns
  have hts := atoms_spec (ws := wsX9_isWhole) B.pre
  have hown : s.vm.findClass RX9 = some m.cls := findClass_of_methodNamed B.named
  have hlocks := B.notSynchronized
  have hw0 := hts (.fieldLink RX9 48 "ParquetLayer" "fields" "J") (by decide +kernel)
  have hi9 := ihX9_isWhole_9
  have hD := hD0
  have hl := lv_entry ([.ref (a 0)]) (n := 1) (Nat.le_of_ble_eq_true rfl)
  rw [lg_entry_eq]
  generalize (lg_sl ([.ref (a 0)]) ++ List.replicate (1 - (lg_sl ([.ref (a 0)])).length) Slot.unset).toArray = ls at hl ⊢
  have hl : lv_has ls 1 [(0, .ref (a 0))] := hl
  have hRO0 := hM.2.2.2.2.2.2.2.2.1
  have hRO1 := hM.2.2.2.2.2.2.2.2.2.1
  have hRO2 := hM.2.2.2.2.2.2.2.2.2.2.1
  have hRO3 := hM.2.2.2.2.2.2.2.2.2.2.2
  refine lv_aload_n hx hb dX9_isWhole_0 rfl (lv_at hl 0 rfl) ?_
  refine kR_l (As := []) (rest := []) (q0 := 0) ⟨hx, hb, hml, hown, hts⟩ (x_X9_gluedFields l D cy a _ J I O R RO LL Y  fl S P hRA ⟨hM.1, hM.2.1, hM.2.2.1, hM.2.2.2.1, hM.2.2.2.2.1, hM.2.2.2.2.2.1, hM.2.2.2.2.2.2.1, hM.2.2.2.2.2.2.2.1, hRO0, hRO1, hRO2, hRO3⟩) (cwV 0 hts gX9_isWhole_X9_gluedFields rfl rfl rfl (by decide +kernel) ⟨Nat.le_of_ble_eq_true rfl, Nat.le_of_ble_eq_true rfl⟩) hK hN hP hD rfl rfl rfl hl.1 rfl (Nat.le_of_ble_eq_true rfl) dX9_isWhole_1 ⟨Nat.le_of_ble_eq_true rfl, Nat.le_of_ble_eq_true rfl⟩ ?_
  refine lv_lconst (v := 0) hx hb dX9_isWhole_4 (by decide) ?_
  refine W.lcmp hx hb dX9_isWhole_5 ?_
  refine lv_if_ne (tgt := 23) hx hb dX9_isWhole_6 (by decide) (fun c_1 => ?_) (fun c_1 => ?_)
  · replace c_1 := fun z => c_1 ((lg_cmp_eq _ _).mpr z)
    refine lv_iconst (v := 0) hx hb dX9_isWhole_23 (by decide) ?_
    exact pret_z hx hb hr hlocks (wc_1 hRA.2.1.1 c_1) dX9_isWhole_24
  · replace c_1 := (lg_cmp_eq _ _).mp c_1
    refine lv_aload_n hx hb dX9_isWhole_9 rfl (lv_at hl 0 rfl) ?_
    refine va_get (D := D) (ci := 8) (v := .long (J 6)) (C := RX9) (T := TX9) (N := 11) hx hb hts hi9 hown hK hP 0 rfl rfl 6 (by decide) hw0 (fun _ h9 => h9) rfl dX9_isWhole_10 ?_
    refine kS_i (As := [.long (J 6)]) (rest := []) ⟨hx, hb, hml, hown, hts⟩ (x_X1_isDisc l (J 6)) (va_cwS 1 hts gX9_isWhole_X1_isDisc rfl rfl rfl (by decide +kernel) ⟨Nat.le_of_ble_eq_true rfl, Nat.le_of_ble_eq_true rfl⟩) rfl hl.1 rfl (Nat.le_of_ble_eq_true rfl) dX9_isWhole_13 ⟨Nat.le_of_ble_eq_true rfl, Nat.le_of_ble_eq_true rfl⟩ ?_
    refine lv_if_eq (tgt := 23) hx hb dX9_isWhole_16 (by decide) (fun c_2 => ?_) (fun c_2 => ?_)
    · replace c_2 := bI_f c_2
      refine lv_iconst (v := 0) hx hb dX9_isWhole_23 (by decide) ?_
      exact pret_z hx hb hr hlocks (wc_2 (by rw [← hRA.1]; exact c_2)) dX9_isWhole_24
    · replace c_2 := bI_t c_2
      refine lv_iconst (v := 1) hx hb dX9_isWhole_19 (by decide) ?_
      refine lv_goto (tgt := 24) hx hb dX9_isWhole_20 (by decide) ?_
      exact pret_z hx hb hr hlocks (wc_3 hRA.2.1.1 c_1 (by rw [← hRA.1]; exact c_2)) dX9_isWhole_24
set_option maxHeartbeats 4000000 in
set_option maxRecDepth 100000 in
theorem x_X9_floor (l : Launch) (D : va_G) (cy : Nat → ClassId) (a : Nat → Nat) (sz : Nat) (J : Nat → Int64) (I : Nat → Int32) (O : Nat → Option Nat) (R : Nat → Nat → Int32) (RO : Nat → Nat → Option Nat) (LL : va_W) (Y : va_W) (x0 : Int32) (fl : Int64) (S : List Int32) (P : List PE) (hRA : RCf Y (J 6) (O 7) (I 9) (RO 2) fl S P) (hM : CI a Y I O RO) : Met l yX9_floor wsX9_floor ({ frames := 5, cells := 0, slots := 0, locals := 115 }) (va_Pc [.ref (a 0), .int x0] (PW D cy sz (CT cy a J I O R RO (LL ++ Y)))) (va_Qi (fun r (u : TS) => ∃ (w0 : Int32), (r = (aFlo fl S x0)) ∧ u = (J, (va_up I 10 w0), O, R, RO, LL, Y)) (BW D (va_A (CT cy a J I O R RO (LL ++ Y)) sz) (CTu cy a)) (va_A (CT cy a J I O R RO (LL ++ Y)) sz)) 0 0 (va_A (CT cy a J I O R RO (LL ++ Y)) sz) := by
  refine Met.ofW (cc := cX9_floor) (maxL := 2) (ret := (some .int)) (by decide) rfl ?_
  intro p e s m args below meth c s₁ B hml hv
  obtain ⟨rfl, rfl, hP, hK, hN, hD0⟩ := hv
  have hx := B.exec
  have hb := B.bytes
  have hr := B.returns
  have hts := atoms_spec (ws := wsX9_floor) B.pre
  have hown : s.vm.findClass RX9 = some m.cls := findClass_of_methodNamed B.named
  have hlocks := B.notSynchronized
  have hw0 := hts (.fieldLink RX9 48 "ParquetLayer" "fields" "J") (by decide +kernel)
  have hw1 := hts (.constantLong RX9 79 (-6172840429334713771)) (by decide +kernel)
  have hw2 := hts (.constant RX9 43 (-100001)) (by decide +kernel)
  have hi9 := ihX9_floor_9
  have hD := hD0.self (sz := s.heap.size)
  generalize hAe : va_A (CT cy a J I O R RO (LL ++ Y)) s.heap.size = A at hD ⊢
  have hA : ∀ q : Nat, s.heap.size ≤ q → A q := fun q h => by rw [← hAe]; exact Or.inr h
  have hS : va_S A s.heap s.heap [] := va_S.rf
  have hl := lv_entry ([.ref (a 0), .int x0]) (n := 2) (Nat.le_of_ble_eq_true rfl)
  rw [lg_entry_eq]
  generalize (lg_sl ([.ref (a 0), .int x0]) ++ List.replicate (2 - (lg_sl ([.ref (a 0), .int x0])).length) Slot.unset).toArray = ls at hl ⊢
  have hl : lv_has ls 2 [(0, .ref (a 0)), (1, .int x0)] := hl
  have hRO0 := hM.2.2.2.2.2.2.2.2.1
  have hRO1 := hM.2.2.2.2.2.2.2.2.2.1
  have hRO2 := hM.2.2.2.2.2.2.2.2.2.2.1
  have hRO3 := hM.2.2.2.2.2.2.2.2.2.2.2
  have hP : va_P D vwCl (CT cy a J (va_up I 10 (I 10)) O R RO (LL ++ Y)) s.heap := hP
  have hD : va_D A (CT cy a J (va_up I 10 (I 10)) O R RO (LL ++ Y)) := hD
  refine lv_iload_n hx hb dX9_floor_0 rfl (lv_at hl 1 rfl) ?_
  by_cases c_1 : x0 = 0
  · refine lv_tableIn (off := 31) (tgt := 32) hx hb dX9_floor_1 (by rw [c_1]; decide) (by rw [c_1]; decide) (by rw [c_1]; rfl) (by decide) ?_
    refine lv_aload_n hx hb dX9_floor_32 rfl (lv_at hl 0 rfl) ?_
    refine va_get (D := D) (ci := 8) (v := .long (J 6)) (C := RX9) (T := TX9) (N := 11) hx hb hts hi9 hown hK hP 0 rfl rfl 6 (by decide) hw0 (fun _ h9 => h9) rfl dX9_floor_33 ?_
    refine kS_i (As := [.long (J 6)]) (rest := []) ⟨hx, hb, hml, hown, hts⟩ (c_J13_bitCount_95d88 l (J 6)) (va_cwS 1 hts gX9_floor_J13_bitCount_95d88 rfl rfl rfl (by decide +kernel) ⟨Nat.le_of_ble_eq_true rfl, Nat.le_of_ble_eq_true rfl⟩) rfl hl.1 rfl (Nat.le_of_ble_eq_true rfl) dX9_floor_36 ⟨Nat.le_of_ble_eq_true rfl, Nat.le_of_ble_eq_true rfl⟩ ?_
    exact wret_i hx hb hr hlocks (J, (va_up I 10 (I 10)), O, R, RO, LL, Y) ⟨(I 10), (by rw [bcount_cnt, hRA.1]; exact fc_0 c_1), rfl⟩ hP hD hS dX9_floor_39
  by_cases c_2 : x0 = 1
  · refine lv_tableIn (off := 39) (tgt := 40) hx hb dX9_floor_1 (by rw [c_2]; decide) (by rw [c_2]; decide) (by rw [c_2]; rfl) (by decide) ?_
    refine lv_aload_n hx hb dX9_floor_40 rfl (lv_at hl 0 rfl) ?_
    refine va_get (D := D) (ci := 8) (v := .long (J 6)) (C := RX9) (T := TX9) (N := 11) hx hb hts hi9 hown hK hP 0 rfl rfl 6 (by decide) hw0 (fun _ h9 => h9) rfl dX9_floor_41 ?_
    refine lv_ldc2 (v := (-6172840429334713771)) hx hb hown hw1 dX9_floor_44 ?_
    refine lv_land hx hb dX9_floor_47 ?_
    refine kS_i (As := [.long ((J 6) &&& (-6172840429334713771))]) (rest := []) ⟨hx, hb, hml, hown, hts⟩ (c_J13_bitCount_95d88 l ((J 6) &&& (-6172840429334713771))) (va_cwS 1 hts gX9_floor_J13_bitCount_95d88 rfl rfl rfl (by decide +kernel) ⟨Nat.le_of_ble_eq_true rfl, Nat.le_of_ble_eq_true rfl⟩) rfl hl.1 rfl (Nat.le_of_ble_eq_true rfl) dX9_floor_48 ⟨Nat.le_of_ble_eq_true rfl, Nat.le_of_ble_eq_true rfl⟩ ?_
    exact wret_i hx hb hr hlocks (J, (va_up I 10 (I 10)), O, R, RO, LL, Y) ⟨(I 10), (by rw [bcount_cnt, hRA.1]; exact fc_1 c_2), rfl⟩ hP hD hS dX9_floor_51
  by_cases c_3 : x0 = 2
  · refine lv_tableIn (off := 51) (tgt := 52) hx hb dX9_floor_1 (by rw [c_3]; decide) (by rw [c_3]; decide) (by rw [c_3]; rfl) (by decide) ?_
    refine lv_aload_n hx hb dX9_floor_52 rfl (lv_at hl 0 rfl) ?_
    refine va_get (D := D) (ci := 8) (v := .long (J 6)) (C := RX9) (T := TX9) (N := 11) hx hb hts hi9 hown hK hP 0 rfl rfl 6 (by decide) hw0 (fun _ h9 => h9) rfl dX9_floor_53 ?_
    refine kS_i (As := [.long (J 6)]) (rest := []) ⟨hx, hb, hml, hown, hts⟩ (x_X1_pieces l (J 6)) (va_cwS 1 hts gX9_floor_X1_pieces rfl rfl rfl (by decide +kernel) ⟨Nat.le_of_ble_eq_true rfl, Nat.le_of_ble_eq_true rfl⟩) rfl hl.1 rfl (Nat.le_of_ble_eq_true rfl) dX9_floor_56 ⟨Nat.le_of_ble_eq_true rfl, Nat.le_of_ble_eq_true rfl⟩ ?_
    exact wret_i hx hb hr hlocks (J, (va_up I 10 (I 10)), O, R, RO, LL, Y) ⟨(I 10), (by rw [hRA.1]; exact fc_2 c_3), rfl⟩ hP hD hS dX9_floor_59
  by_cases c_4 : x0 = 3
  · refine lv_tableIn (off := 59) (tgt := 60) hx hb dX9_floor_1 (by rw [c_4]; decide) (by rw [c_4]; decide) (by rw [c_4]; rfl) (by decide) ?_
    refine lv_aload_n hx hb dX9_floor_60 rfl (lv_at hl 0 rfl) ?_
    refine kR_i (As := []) (rest := []) (q0 := 0) ⟨hx, hb, hml, hown, hts⟩ (x_X9_isWhole l D cy a _ J (va_up I 10 (I 10)) O R RO LL Y  fl S P hRA ⟨hM.1, hM.2.1, hM.2.2.1, hM.2.2.2.1, hM.2.2.2.2.1, hM.2.2.2.2.2.1, hM.2.2.2.2.2.2.1, hM.2.2.2.2.2.2.2.1, hRO0, hRO1, hRO2, hRO3⟩) (cwV 0 hts gX9_floor_X9_isWhole rfl rfl rfl (by decide +kernel) ⟨Nat.le_of_ble_eq_true rfl, Nat.le_of_ble_eq_true rfl⟩) hK hN hP hD rfl rfl rfl hl.1 rfl (Nat.le_of_ble_eq_true rfl) dX9_floor_61 ⟨Nat.le_of_ble_eq_true rfl, Nat.le_of_ble_eq_true rfl⟩ ?_
    refine kS_i (As := [.int (bI (aWh fl S))]) (rest := []) ⟨hx, hb, hml, hown, hts⟩ (c_X9_asNumber l (aWh fl S)) (va_cwS 1 hts gX9_floor_X9_asNumber rfl rfl rfl (by decide +kernel) ⟨Nat.le_of_ble_eq_true rfl, Nat.le_of_ble_eq_true rfl⟩) rfl hl.1 rfl (Nat.le_of_ble_eq_true rfl) dX9_floor_64 ⟨Nat.le_of_ble_eq_true rfl, Nat.le_of_ble_eq_true rfl⟩ ?_
    exact wret_i hx hb hr hlocks (J, (va_up I 10 (I 10)), O, R, RO, LL, Y) ⟨(I 10), (fc_3 c_4), rfl⟩ hP hD hS dX9_floor_67
  refine lv_tableOut (tgt := 68) hx hb dX9_floor_1 (sw_out 0 3 (by decide) (by decide) (fun k hk1 hk2 => by have hq : k = 0 ∨ k = 1 ∨ k = 2 ∨ k = 3 := (by omega); rcases hq with rfl | rfl | rfl | rfl <;> assumption)) (by decide) ?_
  refine lv_aload_n hx hb dX9_floor_68 rfl (lv_at hl 0 rfl) ?_
  refine lv_ldc (v := (-100001)) hx hb hown hw2 dX9_floor_69 ?_
  refine kM_i (As := [.int (-100001)]) (rest := []) (q0 := 0) ⟨hx, hb, hml, hown, hts⟩ (t_X9_finding l D cy a _ J (va_up I 10 (I 10)) O R RO LL Y ((-100001) : Int32)   ) (cwV 1 hts gX9_floor_X9_finding rfl rfl rfl (by decide +kernel) ⟨Nat.le_of_ble_eq_true rfl, Nat.le_of_ble_eq_true rfl⟩) hK hN hP hD hS hA rfl rfl rfl hl.1 rfl (Nat.le_of_ble_eq_true rfl) dX9_floor_71 ⟨Nat.le_of_ble_eq_true rfl, Nat.le_of_ble_eq_true rfl⟩ (fun r_5 u H locs hw hP hD hS => ?_)
  obtain ⟨w_6, rfl, rfl⟩ := hw
  have hP : va_P D vwCl (CT cy a J (va_up I 10 w_6) O R RO (LL ++ Y)) H := hP
  have hD : va_D A (CT cy a J (va_up I 10 w_6) O R RO (LL ++ Y)) := hD
  exact wret_i hx hb hr hlocks (J, (va_up I 10 w_6), O, R, RO, LL, Y) ⟨w_6, (fc_4 c_1 c_2 c_3 c_4), rfl⟩ hP hD hS dX9_floor_74
