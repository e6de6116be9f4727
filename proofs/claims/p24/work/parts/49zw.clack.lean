set_option maxHeartbeats 4000000 in
set_option maxRecDepth 100000 in
theorem x_X9_lack (l : Launch) (D : va_G) (cy : Nat → ClassId) (a : Nat → Nat) (sz : Nat) (J : Nat → Int64) (I : Nat → Int32) (O : Nat → Option Nat) (R : Nat → Nat → Int32) (RO : Nat → Nat → Option Nat) (LL : va_W) (Y : va_W)  (hQ : Q64 (R 11)) (hF : Q64 (R 10)) (fl : Int64) (S : List Int32) (P : List PE) (hRA : RCf Y (J 6) (O 7) (I 9) (RO 2) fl S P) : Met l yX9_lack wsX9_lack ({ frames := 5, cells := 0, slots := 0, locals := 118 }) (va_Pc [.ref (a 0)] (PW D cy sz (CT cy a J I O R RO (LL ++ Y)))) (va_Qi (fun r (u : TS) => ∃ (w0 : Int64), ∃ (w1 : Int64), ∃ (w2 : Int64), ∃ (w3 : Int32), ∃ (w4 : Nat → Int32), ∃ (w5 : Nat → Int32), ∃ (w6 : Nat → Int32), (r = (aLack fl) ∧ (Q64 w6) ∧ (Q64 w5)) ∧ u = ((va_up (va_up (va_up J 260 w0) 261 w1) 262 w2), (va_up I 259 w3), O, (va_up (va_up (va_up R 9 w4) 10 w5) 11 w6), RO, LL, Y)) (BW D (va_A (CT cy a J I O R RO (LL ++ Y)) sz) (CTu cy a)) (va_A (CT cy a J I O R RO (LL ++ Y)) sz)) 0 0 (va_A (CT cy a J I O R RO (LL ++ Y)) sz) := by
  refine Met.ofW (cc := cX9_lack) (maxL := 1) (ret := (some .int)) (by decide) rfl ?_
  intro p e s m args below meth c s₁ B hml hv
  obtain ⟨rfl, rfl, hP, hK, hN, hD0⟩ := hv
  have hx := B.exec
  have hb := B.bytes
  have hr := B.returns
  have hts := atoms_spec (ws := wsX9_lack) B.pre
  have hown : s.vm.findClass RX9 = some m.cls := findClass_of_methodNamed B.named
  have hlocks := B.notSynchronized
  have hw0 := hts (.fieldLink RX9 38 "ParquetLayer" "covering" "LParquetLayer$Covering;") (by decide +kernel)
  have hw1 := hts (.fieldLink RX9 48 "ParquetLayer" "fields" "J") (by decide +kernel)
  have hw2 := hts (.fieldLink RX9 273 "ParquetLayer$Covering" "left" "J") (by decide +kernel)
  have hi0 := ihX9_lack_0
  have hi9 := ihX9_lack_9
  have hD := hD0.self (sz := s.heap.size)
  generalize hAe : va_A (CT cy a J I O R RO (LL ++ Y)) s.heap.size = A at hD ⊢
  have hA : ∀ q : Nat, s.heap.size ≤ q → A q := fun q h => by rw [← hAe]; exact Or.inr h
  have hS : va_S A s.heap s.heap [] := va_S.rf
  have hl := lv_entry ([.ref (a 0)]) (n := 1) (Nat.le_of_ble_eq_true rfl)
  rw [lg_entry_eq]
  generalize (lg_sl ([.ref (a 0)]) ++ List.replicate (1 - (lg_sl ([.ref (a 0)])).length) Slot.unset).toArray = ls at hl ⊢
  have hl : lv_has ls 1 [(0, .ref (a 0))] := hl
  have hP : va_P D vwCl (CT cy a (va_up (va_up (va_up J 260 (J 260)) 261 (J 261)) 262 (J 262)) (va_up I 259 (I 259)) O (va_up (va_up (va_up R 9 (R 9)) 10 (R 10)) 11 (R 11)) RO (LL ++ Y)) s.heap := hP
  have hD : va_D A (CT cy a (va_up (va_up (va_up J 260 (J 260)) 261 (J 261)) 262 (J 262)) (va_up I 259 (I 259)) O (va_up (va_up (va_up R 9 (R 9)) 10 (R 10)) 11 (R 11)) RO (LL ++ Y)) := hD
  refine lv_aload_n hx hb dX9_lack_0 rfl (lv_at hl 0 rfl) ?_
  refine va_get (D := D) (ci := 8) (v := .ref (a 8)) (C := RX9) (T := TX9) (N := 11) hx hb hts hi9 hown hK hP 0 rfl rfl 4 (by decide) hw0 (fun _ h9 => h9) rfl dX9_lack_1 ?_
  refine lv_aload_n hx hb dX9_lack_4 rfl (lv_at hl 0 rfl) ?_
  refine va_get (D := D) (ci := 8) (v := .long (J 6)) (C := RX9) (T := TX9) (N := 11) hx hb hts hi9 hown hK hP 0 rfl rfl 6 (by decide) hw1 (fun _ h9 => h9) rfl dX9_lack_5 ?_
  refine kM_v (As := [.long (J 6)]) (rest := []) (q0 := 8) ⟨hx, hb, hml, hown, hts⟩ (x_X0_cover l D cy a _ (va_up (va_up (va_up J 260 (J 260)) 261 (J 261)) 262 (J 262)) (va_up I 259 (I 259)) O (va_up (va_up (va_up R 9 (R 9)) 10 (R 10)) 11 (R 11)) RO LL Y (J 6) hQ hF  ) (cwV 1 hts gX9_lack_X0_cover rfl rfl rfl (by decide +kernel) ⟨Nat.le_of_ble_eq_true rfl, Nat.le_of_ble_eq_true rfl⟩) hK hN hP hD hS hA rfl rfl rfl hl.1 rfl (Nat.le_of_ble_eq_true rfl) dX9_lack_8 ⟨Nat.le_of_ble_eq_true rfl, Nat.le_of_ble_eq_true rfl⟩ (fun u H locs hw hP hD hS => ?_)
  obtain ⟨w_2, w_3, w_4, w_5, w_6, w_7, w_8, ⟨hp_9, hp_10, hp_11⟩, rfl⟩ := hw
  have hP : va_P D vwCl (CT cy a (va_up (va_up (va_up J 260 w_2) 261 w_3) 262 w_4) (va_up I 259 w_5) O (va_up (va_up (va_up R 9 w_6) 10 w_7) 11 w_8) RO (LL ++ Y)) H := hP
  have hD : va_D A (CT cy a (va_up (va_up (va_up J 260 w_2) 261 w_3) 262 w_4) (va_up I 259 w_5) O (va_up (va_up (va_up R 9 w_6) 10 w_7) 11 w_8) RO (LL ++ Y)) := hD
  refine lv_aload_n hx hb dX9_lack_11 rfl (lv_at hl 0 rfl) ?_
  refine va_get (D := D) (ci := 8) (v := .ref (a 8)) (C := RX9) (T := TX9) (N := 11) hx hb hts hi9 hown hK hP 0 rfl rfl 4 (by decide) hw0 (fun _ h9 => h9) rfl dX9_lack_12 ?_
  refine va_get (D := D) (ci := 0) (v := .long w_3) (C := RX0) (T := TX0) (N := 7) hx hb hts hi0 hown hK hP 8 rfl rfl 5 (by decide) hw2 (fun _ h9 => h9) rfl dX9_lack_15 ?_
  refine kS_i (As := [.long w_3]) (rest := []) ⟨hx, hb, hml, hown, hts⟩ (c_J13_bitCount_95d88 l w_3) (va_cwS 1 hts gX9_lack_J13_bitCount_95d88 rfl rfl rfl (by decide +kernel) ⟨Nat.le_of_ble_eq_true rfl, Nat.le_of_ble_eq_true rfl⟩) rfl hl.1 rfl (Nat.le_of_ble_eq_true rfl) dX9_lack_18 ⟨Nat.le_of_ble_eq_true rfl, Nat.le_of_ble_eq_true rfl⟩ ?_
  exact wret_i hx hb hr hlocks ((va_up (va_up (va_up J 260 w_2) 261 w_3) 262 w_4), (va_up I 259 w_5), O, (va_up (va_up (va_up R 9 w_6) 10 w_7) 11 w_8), RO, LL, Y) ⟨w_2, w_3, w_4, w_5, w_6, w_7, w_8, ⟨(by rw [bcount_cnt, hp_11.1, hRA.1]; rfl), hp_9, hp_10⟩, rfl⟩ hP hD hS dX9_lack_21
set_option maxHeartbeats 4000000 in
set_option maxRecDepth 100000 in
theorem x_X9_lacking (l : Launch) (D : va_G) (cy : Nat → ClassId) (a : Nat → Nat) (sz : Nat) (J : Nat → Int64) (I : Nat → Int32) (O : Nat → Option Nat) (R : Nat → Nat → Int32) (RO : Nat → Nat → Option Nat) (LL : va_W) (Y : va_W) (x0 : Int32) (hQ : Q64 (R 11)) (hF : Q64 (R 10)) (fl : Int64) (S : List Int32) (P : List PE) (hRA : RCf Y (J 6) (O 7) (I 9) (RO 2) fl S P) : Met l yX9_lacking wsX9_lacking ({ frames := 5, cells := 0, slots := 0, locals := 118 }) (va_Pc [.ref (a 0), .int x0] (PW D cy sz (CT cy a J I O R RO (LL ++ Y)))) (va_Qi (fun r (u : TS) => ∃ (w0 : Int64), ∃ (w1 : Int64), ∃ (w2 : Int64), ∃ (w3 : Int32), ∃ (w4 : Int32), ∃ (w5 : Nat → Int32), ∃ (w6 : Nat → Int32), ∃ (w7 : Nat → Int32), (r = (aLkg fl x0) ∧ (Q64 w7) ∧ (Q64 w6)) ∧ u = ((va_up (va_up (va_up J 260 w0) 261 w1) 262 w2), (va_up (va_up I 10 w3) 259 w4), O, (va_up (va_up (va_up R 9 w5) 10 w6) 11 w7), RO, LL, Y)) (BW D (va_A (CT cy a J I O R RO (LL ++ Y)) sz) (CTu cy a)) (va_A (CT cy a J I O R RO (LL ++ Y)) sz)) 0 0 (va_A (CT cy a J I O R RO (LL ++ Y)) sz) := by
  refine Met.ofW (cc := cX9_lacking) (maxL := 2) (ret := (some .int)) (by decide) rfl ?_
  intro p e s m args below meth c s₁ B hml hv
  obtain ⟨rfl, rfl, hP, hK, hN, hD0⟩ := hv
  have hx := B.exec
  have hb := B.bytes
  have hr := B.returns
  have hts := atoms_spec (ws := wsX9_lacking) B.pre
  have hown : s.vm.findClass RX9 = some m.cls := findClass_of_methodNamed B.named
  have hlocks := B.notSynchronized
  have hw0 := hts (.fieldLink RX9 38 "ParquetLayer" "covering" "LParquetLayer$Covering;") (by decide +kernel)
  have hw1 := hts (.fieldLink RX9 48 "ParquetLayer" "fields" "J") (by decide +kernel)
  have hw2 := hts (.fieldLink RX9 276 "ParquetLayer$Covering" "reached" "J") (by decide +kernel)
  have hw3 := hts (.constant RX9 43 (-100001)) (by decide +kernel)
  have hi0 := ihX9_lacking_0
  have hi9 := ihX9_lacking_9
  have hD := hD0.self (sz := s.heap.size)
  generalize hAe : va_A (CT cy a J I O R RO (LL ++ Y)) s.heap.size = A at hD ⊢
  have hA : ∀ q : Nat, s.heap.size ≤ q → A q := fun q h => by rw [← hAe]; exact Or.inr h
  have hS : va_S A s.heap s.heap [] := va_S.rf
  have hl := lv_entry ([.ref (a 0), .int x0]) (n := 2) (Nat.le_of_ble_eq_true rfl)
  rw [lg_entry_eq]
  generalize (lg_sl ([.ref (a 0), .int x0]) ++ List.replicate (2 - (lg_sl ([.ref (a 0), .int x0])).length) Slot.unset).toArray = ls at hl ⊢
  have hl : lv_has ls 2 [(0, .ref (a 0)), (1, .int x0)] := hl
  have hP : va_P D vwCl (CT cy a (va_up (va_up (va_up J 260 (J 260)) 261 (J 261)) 262 (J 262)) (va_up (va_up I 10 (I 10)) 259 (I 259)) O (va_up (va_up (va_up R 9 (R 9)) 10 (R 10)) 11 (R 11)) RO (LL ++ Y)) s.heap := hP
  have hD : va_D A (CT cy a (va_up (va_up (va_up J 260 (J 260)) 261 (J 261)) 262 (J 262)) (va_up (va_up I 10 (I 10)) 259 (I 259)) O (va_up (va_up (va_up R 9 (R 9)) 10 (R 10)) 11 (R 11)) RO (LL ++ Y)) := hD
  refine lv_iload_n hx hb dX9_lacking_0 rfl (lv_at hl 1 rfl) ?_
  refine kS_i (As := [.int x0]) (rest := []) ⟨hx, hb, hml, hown, hts⟩ (c_X1_isField l x0) (va_cwS 1 hts gX9_lacking_X1_isField rfl rfl rfl (by decide +kernel) ⟨Nat.le_of_ble_eq_true rfl, Nat.le_of_ble_eq_true rfl⟩) rfl hl.1 rfl (Nat.le_of_ble_eq_true rfl) dX9_lacking_1 ⟨Nat.le_of_ble_eq_true rfl, Nat.le_of_ble_eq_true rfl⟩ ?_
  refine lv_if_ne (tgt := 14) hx hb dX9_lacking_4 (by decide) (fun c_1 => ?_) (fun c_1 => ?_)
  · replace c_1 := bI_t c_1
    refine lv_aload_n hx hb dX9_lacking_14 rfl (lv_at hl 0 rfl) ?_
    refine va_get (D := D) (ci := 8) (v := .ref (a 8)) (C := RX9) (T := TX9) (N := 11) hx hb hts hi9 hown hK hP 0 rfl rfl 4 (by decide) hw0 (fun _ h9 => h9) rfl dX9_lacking_15 ?_
    refine lv_aload_n hx hb dX9_lacking_18 rfl (lv_at hl 0 rfl) ?_
    refine va_get (D := D) (ci := 8) (v := .long (J 6)) (C := RX9) (T := TX9) (N := 11) hx hb hts hi9 hown hK hP 0 rfl rfl 6 (by decide) hw1 (fun _ h9 => h9) rfl dX9_lacking_19 ?_
    refine kM_v (As := [.long (J 6)]) (rest := []) (q0 := 8) ⟨hx, hb, hml, hown, hts⟩ (x_X0_cover l D cy a _ (va_up (va_up (va_up J 260 (J 260)) 261 (J 261)) 262 (J 262)) (va_up (va_up I 10 (I 10)) 259 (I 259)) O (va_up (va_up (va_up R 9 (R 9)) 10 (R 10)) 11 (R 11)) RO LL Y (J 6) hQ hF  ) (cwV 1 hts gX9_lacking_X0_cover rfl rfl rfl (by decide +kernel) ⟨Nat.le_of_ble_eq_true rfl, Nat.le_of_ble_eq_true rfl⟩) hK hN hP hD hS hA rfl rfl rfl hl.1 rfl (Nat.le_of_ble_eq_true rfl) dX9_lacking_22 ⟨Nat.le_of_ble_eq_true rfl, Nat.le_of_ble_eq_true rfl⟩ (fun u H locs hw hP hD hS => ?_)
    obtain ⟨w_3, w_4, w_5, w_6, w_7, w_8, w_9, ⟨hp_10, hp_11, hp_12⟩, rfl⟩ := hw
    have hP : va_P D vwCl (CT cy a (va_up (va_up (va_up J 260 w_3) 261 w_4) 262 w_5) (va_up (va_up I 10 (I 10)) 259 w_6) O (va_up (va_up (va_up R 9 w_7) 10 w_8) 11 w_9) RO (LL ++ Y)) H := hP
    have hD : va_D A (CT cy a (va_up (va_up (va_up J 260 w_3) 261 w_4) 262 w_5) (va_up (va_up I 10 (I 10)) 259 w_6) O (va_up (va_up (va_up R 9 w_7) 10 w_8) 11 w_9) RO (LL ++ Y)) := hD
    refine lv_aload_n hx hb dX9_lacking_25 rfl (lv_at hl 0 rfl) ?_
    refine va_get (D := D) (ci := 8) (v := .ref (a 8)) (C := RX9) (T := TX9) (N := 11) hx hb hts hi9 hown hK hP 0 rfl rfl 4 (by decide) hw0 (fun _ h9 => h9) rfl dX9_lacking_26 ?_
    refine va_get (D := D) (ci := 0) (v := .long w_5) (C := RX0) (T := TX0) (N := 7) hx hb hts hi0 hown hK hP 8 rfl rfl 6 (by decide) hw2 (fun _ h9 => h9) rfl dX9_lacking_29 ?_
    refine lv_iload_n hx hb dX9_lacking_32 rfl (lv_at hl 1 rfl) ?_
    refine kS_i (As := [.long w_5, .int x0]) (rest := []) ⟨hx, hb, hml, hown, hts⟩ (c_X1_holds l w_5 x0) (va_cwS 2 hts gX9_lacking_X1_holds rfl rfl rfl (by decide +kernel) ⟨Nat.le_of_ble_eq_true rfl, Nat.le_of_ble_eq_true rfl⟩) rfl hl.1 rfl (Nat.le_of_ble_eq_true rfl) dX9_lacking_33 ⟨Nat.le_of_ble_eq_true rfl, Nat.le_of_ble_eq_true rfl⟩ ?_
    refine kS_i (As := [.int (bI (g_holds w_5 x0))]) (rest := []) ⟨hx, hb, hml, hown, hts⟩ (c_X9_asNumber l (g_holds w_5 x0)) (va_cwS 1 hts gX9_lacking_X9_asNumber rfl rfl rfl (by decide +kernel) ⟨Nat.le_of_ble_eq_true rfl, Nat.le_of_ble_eq_true rfl⟩) rfl hl.1 rfl (Nat.le_of_ble_eq_true rfl) dX9_lacking_36 ⟨Nat.le_of_ble_eq_true rfl, Nat.le_of_ble_eq_true rfl⟩ ?_
    exact wret_i hx hb hr hlocks ((va_up (va_up (va_up J 260 w_3) 261 w_4) 262 w_5), (va_up (va_up I 10 (I 10)) 259 w_6), O, (va_up (va_up (va_up R 9 w_7) 10 w_8) 11 w_9), RO, LL, Y) ⟨w_3, w_4, w_5, (I 10), w_6, w_7, w_8, w_9, ⟨(lkC hRA.1 c_1 hp_12), hp_10, hp_11⟩, rfl⟩ hP hD hS dX9_lacking_39
  · replace c_1 := bI_f c_1
    refine lv_aload_n hx hb dX9_lacking_7 rfl (lv_at hl 0 rfl) ?_
    refine lv_ldc (v := (-100001)) hx hb hown hw3 dX9_lacking_8 ?_
    refine kM_i (As := [.int (-100001)]) (rest := []) (q0 := 0) ⟨hx, hb, hml, hown, hts⟩ (t_X9_finding l D cy a _ (va_up (va_up (va_up J 260 (J 260)) 261 (J 261)) 262 (J 262)) (va_up (va_up I 10 (I 10)) 259 (I 259)) O (va_up (va_up (va_up R 9 (R 9)) 10 (R 10)) 11 (R 11)) RO LL Y ((-100001) : Int32)   ) (cwV 1 hts gX9_lacking_X9_finding rfl rfl rfl (by decide +kernel) ⟨Nat.le_of_ble_eq_true rfl, Nat.le_of_ble_eq_true rfl⟩) hK hN hP hD hS hA rfl rfl rfl hl.1 rfl (Nat.le_of_ble_eq_true rfl) dX9_lacking_10 ⟨Nat.le_of_ble_eq_true rfl, Nat.le_of_ble_eq_true rfl⟩ (fun r_13 u H locs hw hP hD hS => ?_)
    obtain ⟨w_14, rfl, rfl⟩ := hw
    have hP : va_P D vwCl (CT cy a (va_up (va_up (va_up J 260 (J 260)) 261 (J 261)) 262 (J 262)) (va_up (va_up I 10 w_14) 259 (I 259)) O (va_up (va_up (va_up R 9 (R 9)) 10 (R 10)) 11 (R 11)) RO (LL ++ Y)) H := hP
    have hD : va_D A (CT cy a (va_up (va_up (va_up J 260 (J 260)) 261 (J 261)) 262 (J 262)) (va_up (va_up I 10 w_14) 259 (I 259)) O (va_up (va_up (va_up R 9 (R 9)) 10 (R 10)) 11 (R 11)) RO (LL ++ Y)) := hD
    exact wret_i hx hb hr hlocks ((va_up (va_up (va_up J 260 (J 260)) 261 (J 261)) 262 (J 262)), (va_up (va_up I 10 w_14) 259 (I 259)), O, (va_up (va_up (va_up R 9 (R 9)) 10 (R 10)) 11 (R 11)), RO, LL, Y) ⟨(J 260), (J 261), (J 262), w_14, (I 259), (R 9), (R 10), (R 11), ⟨(lkg_1 (by rw [← isF_eq]; exact c_1)), hQ, hF⟩, rfl⟩ hP hD hS dX9_lacking_13
