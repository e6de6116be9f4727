set_option maxHeartbeats 4000000 in
set_option maxRecDepth 100000 in
theorem x_X9_extreme (l : Launch) (D : va_G) (cy : Nat → ClassId) (a : Nat → Nat) (sz : Nat) (J : Nat → Int64) (I : Nat → Int32) (O : Nat → Option Nat) (R : Nat → Nat → Int32) (RO : Nat → Nat → Option Nat) (LL : va_W) (Y : va_W) (x0 : Bool) (fl : Int64) (S : List Int32) (P : List PE) (hRA : RCf Y (J 6) (O 7) (I 9) (RO 2) fl S P) (hM : CI a Y I O RO) (hL : LOK cy (O 5) LL) : Met l yX9_extreme wsX9_extreme ({ frames := 6, cells := 10, slots := 51471, locals := 145 }) (va_Pc [.ref (a 0), .int (bI x0)] (PW D cy sz (CT cy a J I O R RO (LL ++ Y)))) (va_Qi (fun r (u : TS) => ∃ (w0 : Int64), ∃ (w1 : Int64), ∃ (w2 : Int32), ∃ (w3 : Option Nat), ∃ (LL9 : va_W), ∃ (Y9 : va_W), (r = (aExt fl S x0) ∧ (∀ c, c ∈ Y → c ∈ Y9) ∧ LOK cy w3 LL9) ∧ u = ((va_up (va_up J 224 w0) 225 w1), (va_up I 10 w2), (va_up O 5 w3), R, RO, LL9, Y9)) (BW D (va_A (CT cy a J I O R RO (LL ++ Y)) sz) (CTu cy a)) (va_A (CT cy a J I O R RO (LL ++ Y)) sz)) 10 51471 (va_A (CT cy a J I O R RO (LL ++ Y)) sz) := by
  refine Met.ofW (cc := cX9_extreme) (maxL := 2) (ret := (some .int)) (by decide) rfl ?_
  intro p e s m args below meth c s₁ B hml hv
  obtain ⟨rfl, rfl, hP, hK, hN, hD0⟩ := hv
  have hx := B.exec
  have hb := B.bytes
  have hr := B.returns
  have hts := atoms_spec (ws := wsX9_extreme) B.pre
  have hown : s.vm.findClass RX9 = some m.cls := findClass_of_methodNamed B.named
  have hlocks := B.notSynchronized
  have hw0 := hts (.fieldLink RX9 31 "ParquetLayer" "turner" "LParquetLayer$Turner;") (by decide +kernel)
  have hw1 := hts (.fieldLink RX9 221 "ParquetLayer$Turner" "across" "J") (by decide +kernel)
  have hw2 := hts (.constant RX9 137 (-100006)) (by decide +kernel)
  have hw3 := hts (.constant RX9 128 (-100004)) (by decide +kernel)
  have hi8 := ihX9_extreme_8
  have hi9 := ihX9_extreme_9
  have hD := hD0.self (sz := s.heap.size)
  generalize hAe : va_A (CT cy a J I O R RO (LL ++ Y)) s.heap.size = A at hD ⊢
  have hA : ∀ q : Nat, s.heap.size ≤ q → A q := fun q h => by rw [← hAe]; exact Or.inr h
  have hS : va_S A s.heap s.heap [] := va_S.rf
  have hl := lv_entry ([.ref (a 0), .int (bI x0)]) (n := 2) (Nat.le_of_ble_eq_true rfl)
  rw [lg_entry_eq]
  generalize (lg_sl ([.ref (a 0), .int (bI x0)]) ++ List.replicate (2 - (lg_sl ([.ref (a 0), .int (bI x0)])).length) Slot.unset).toArray = ls at hl ⊢
  have hl : lv_has ls 2 [(0, .ref (a 0)), (1, .int (bI x0))] := hl
  have hRO0 := hM.2.2.2.2.2.2.2.2.1
  have hRO1 := hM.2.2.2.2.2.2.2.2.2.1
  have hRO2 := hM.2.2.2.2.2.2.2.2.2.2.1
  have hRO3 := hM.2.2.2.2.2.2.2.2.2.2.2
  have hP : va_P D vwCl (CT cy a (va_up (va_up J 224 (J 224)) 225 (J 225)) (va_up I 10 (I 10)) (va_up O 5 (O 5)) R RO (LL ++ Y)) s.heap := hP
  have hD : va_D A (CT cy a (va_up (va_up J 224 (J 224)) 225 (J 225)) (va_up I 10 (I 10)) (va_up O 5 (O 5)) R RO (LL ++ Y)) := hD
  refine lv_aload_n hx hb dX9_extreme_0 rfl (lv_at hl 0 rfl) ?_
  refine kR_i (As := []) (rest := []) (q0 := 0) ⟨hx, hb, hml, hown, hts⟩ (x_X9_isWhole l D cy a _ (va_up (va_up J 224 (J 224)) 225 (J 225)) (va_up I 10 (I 10)) (va_up O 5 (O 5)) R RO LL Y  fl S P hRA ⟨hM.1, hM.2.1, hM.2.2.1, hM.2.2.2.1, hM.2.2.2.2.1, hM.2.2.2.2.2.1, hM.2.2.2.2.2.2.1, hM.2.2.2.2.2.2.2.1, hRO0, hRO1, hRO2, hRO3⟩) (cwV 0 hts gX9_extreme_X9_isWhole rfl rfl rfl (by decide +kernel) ⟨Nat.le_of_ble_eq_true rfl, Nat.le_of_ble_eq_true rfl⟩) hK hN hP hD rfl rfl rfl hl.1 rfl (Nat.le_of_ble_eq_true rfl) dX9_extreme_1 ⟨Nat.le_of_ble_eq_true rfl, Nat.le_of_ble_eq_true rfl⟩ ?_
  refine lv_if_ne (tgt := 14) hx hb dX9_extreme_4 (by decide) (fun c_1 => ?_) (fun c_1 => ?_)
  · replace c_1 := bI_t c_1
    refine lv_aload_n hx hb dX9_extreme_14 rfl (lv_at hl 0 rfl) ?_
    refine kM_r (As := []) (rest := []) (q0 := 0) ⟨hx, hb, hml, hown, hts⟩ (y_X9_knownLayings l D cy a _ (va_up (va_up J 224 (J 224)) 225 (J 225)) (va_up I 10 (I 10)) (va_up O 5 (O 5)) R RO LL Y  fl S P hRA (wh_ng c_1) ⟨hM.1, hM.2.1, hM.2.2.1, hM.2.2.2.1, hM.2.2.2.2.1, hM.2.2.2.2.2.1, hM.2.2.2.2.2.2.1, hM.2.2.2.2.2.2.2.1, hRO0, hRO1, hRO2, hRO3⟩ hL) (cwV 0 hts gX9_extreme_X9_knownLayings rfl rfl rfl (by decide +kernel) ⟨Nat.le_of_ble_eq_true rfl, Nat.le_of_ble_eq_true rfl⟩) hK hN hP hD hS hA rfl rfl rfl hl.1 rfl (Nat.le_of_ble_eq_true rfl) dX9_extreme_15 ⟨Nat.le_of_ble_eq_true rfl, Nat.le_of_ble_eq_true rfl⟩ (fun u r_2 H locs hw hP hD hS => ?_)
    obtain ⟨g_3, g_4, g_5, g_6⟩ := u
    have htab_7 : tabF (bfx fl) g_5 0 := hw
    have hP : va_P D vwCl (CT cy a (va_up (va_up J 224 (J 224)) 225 (J 225)) (va_up I 10 (I 10)) (va_up O 5 (some r_2)) R RO ([(r_2, .inr (3, [.ref g_3, .ref g_4, .long fl, .int 1])), (g_3, .inl (cy 0, 16640, .inl g_5)), (g_4, .inl (cy 0, 512, .inl g_6))] ++ Y)) H := hP
    have hD : va_D A (CT cy a (va_up (va_up J 224 (J 224)) 225 (J 225)) (va_up I 10 (I 10)) (va_up O 5 (some r_2)) R RO ([(r_2, .inr (3, [.ref g_3, .ref g_4, .long fl, .int 1])), (g_3, .inl (cy 0, 16640, .inl g_5)), (g_4, .inl (cy 0, 512, .inl g_6))] ++ Y)) := hD
    refine kR_i (As := []) (rest := []) (q0 := 20) ⟨hx, hb, hml, hown, hts⟩ (t_X4_total l D cy a _ (va_up (va_up J 224 (J 224)) 225 (J 225)) (va_up I 10 (I 10)) (va_up O 5 (some r_2)) R RO r_2 g_3 g_4 fl 1 g_5 g_6 (Or.inr rfl) Y   ) (cwV 0 hts gX9_extreme_X4_total rfl rfl rfl (by decide +kernel) ⟨Nat.le_of_ble_eq_true rfl, Nat.le_of_ble_eq_true rfl⟩) hK hN hP hD rfl rfl rfl hl.1 rfl (Nat.le_of_ble_eq_true rfl) dX9_extreme_18 ⟨Nat.le_of_ble_eq_true rfl, Nat.le_of_ble_eq_true rfl⟩ ?_
    refine lv_if_ne (tgt := 31) hx hb dX9_extreme_21 (by decide) (fun c_8 => ?_) (fun c_8 => ?_)
    · refine lv_aload_n hx hb dX9_extreme_31 rfl (lv_at hl 0 rfl) ?_
      refine va_get (D := D) (ci := 8) (v := .ref (a 7)) (C := RX9) (T := TX9) (N := 11) hx hb hts hi9 hown hK hP 0 rfl rfl 3 (by decide) hw0 (fun _ h9 => h9) rfl dX9_extreme_32 ?_
      refine lv_aload_n hx hb dX9_extreme_35 rfl (lv_at hl 0 rfl) ?_
      refine lv_iconst (v := 0) hx hb dX9_extreme_36 (by decide) ?_
      refine kM_r (As := [.int 0]) (rest := [.ref (a 7)]) (q0 := 0) ⟨hx, hb, hml, hown, hts⟩ (y_X9_layingOf l D cy a _ (va_up (va_up J 224 (J 224)) 225 (J 225)) (va_up I 10 (I 10)) (va_up O 5 (some r_2)) R RO ([(r_2, .inr (3, [.ref g_3, .ref g_4, .long fl, .int 1])), (g_3, .inl (cy 0, 16640, .inl g_5)), (g_4, .inl (cy 0, 512, .inl g_6))]) Y 0 fl S P hRA (wh_ng c_1) (ng_pos (wh_ng c_1) (fun z => c_8 ((zk_tot htab_7 (wh_ng c_1)).trans z))) ⟨hM.1, hM.2.1, hM.2.2.1, hM.2.2.2.1, hM.2.2.2.2.1, hM.2.2.2.2.2.1, hM.2.2.2.2.2.2.1, hM.2.2.2.2.2.2.2.1, hRO0, hRO1, hRO2, hRO3⟩ (Or.inr ⟨_, _, _, _, _, _, _, rfl, (Or.inr rfl), (fun _ => htab_7), rfl⟩)) (cwV 1 hts gX9_extreme_X9_layingOf rfl rfl rfl (by decide +kernel) ⟨Nat.le_of_ble_eq_true rfl, Nat.le_of_ble_eq_true rfl⟩) hK hN hP hD hS hA rfl rfl rfl hl.1 rfl (Nat.le_of_ble_eq_true rfl) dX9_extreme_37 ⟨Nat.le_of_ble_eq_true rfl, Nat.le_of_ble_eq_true rfl⟩ (fun u r_9 H locs hw hP hD hS => ?_)
      obtain ⟨g_10, g_11⟩ := u
      have hL_12 : LOK cy g_10 g_11 := hw
      have hs_13 : ∀ c, c ∈ Y → c ∈ (Y ++ [laC r_9 (nI 0) (zLy fl 0).1 (zLy fl 0).2]) := fun c h => List.mem_append_left _ h
      have hi_14 : chO (Y ++ [laC r_9 (nI 0) (zLy fl 0).1 (zLy fl 0).2]) (O 7) := chO_mono hs_13 hM.2.1
      have hi_15 : layO (Y ++ [laC r_9 (nI 0) (zLy fl 0).1 (zLy fl 0).2]) (O 8) := layO_mono hs_13 hM.2.2.1
      have hi_16 : ∀ i, i < 20 → pasO (Y ++ [laC r_9 (nI 0) (zLy fl 0).1 (zLy fl 0).2]) ((RO 2) i) := pas_mono hs_13 hM.2.2.2.1
      have hmono_17 : ∀ c, c ∈ Y → c ∈ (Y ++ [laC r_9 (nI 0) (zLy fl 0).1 (zLy fl 0).2]) := fun c h => hs_13 c ((fun _ h => h) c h)
      have hP : va_P D vwCl (CT cy a (va_up (va_up J 224 (J 224)) 225 (J 225)) (va_up I 10 (I 10)) (va_up O 5 g_10) R RO (g_11 ++ (Y ++ [laC r_9 (nI 0) (zLy fl 0).1 (zLy fl 0).2]))) H := hP
      have hD : va_D A (CT cy a (va_up (va_up J 224 (J 224)) 225 (J 225)) (va_up I 10 (I 10)) (va_up O 5 g_10) R RO (g_11 ++ (Y ++ [laC r_9 (nI 0) (zLy fl 0).1 (zLy fl 0).2]))) := hD
      refine lv_lconst (v := 0) hx hb dX9_extreme_40 (by decide) ?_
      refine kM_v (As := [.ref r_9, .long 0]) (rest := []) (q0 := 7) ⟨hx, hb, hml, hown, hts⟩ (x_X8_start l D cy a _ (va_up (va_up J 224 (J 224)) 225 (J 225)) (va_up I 10 (I 10)) (va_up O 5 g_10) R RO g_11 (Y ++ [laC r_9 (nI 0) (zLy fl 0).1 (zLy fl 0).2]) r_9 (nI 0) ((zLy fl 0).1) ((zLy fl 0).2) mem_last (0 : Int64)   ) (cwV 2 hts gX9_extreme_X8_start rfl rfl rfl (by decide +kernel) ⟨Nat.le_of_ble_eq_true rfl, Nat.le_of_ble_eq_true rfl⟩) hK hN hP hD hS hA rfl rfl rfl hl.1 rfl (Nat.le_of_ble_eq_true rfl) dX9_extreme_41 ⟨Nat.le_of_ble_eq_true rfl, Nat.le_of_ble_eq_true rfl⟩ (fun u H locs hw hP hD hS => ?_)
      obtain ⟨w_19, w_20, ⟨hp_21, hp_22⟩, rfl⟩ := hw
      have hP : va_P D vwCl (CT cy a (va_up (va_up J 224 w_19) 225 w_20) (va_up I 10 (I 10)) (va_up O 5 g_10) R RO (g_11 ++ (Y ++ [laC r_9 (nI 0) (zLy fl 0).1 (zLy fl 0).2]))) H := hP
      have hD : va_D A (CT cy a (va_up (va_up J 224 w_19) 225 w_20) (va_up I 10 (I 10)) (va_up O 5 g_10) R RO (g_11 ++ (Y ++ [laC r_9 (nI 0) (zLy fl 0).1 (zLy fl 0).2]))) := hD
      refine lv_aload_n hx hb dX9_extreme_44 rfl (lv_at hl 0 rfl) ?_
      refine va_get (D := D) (ci := 8) (v := .ref (a 7)) (C := RX9) (T := TX9) (N := 11) hx hb hts hi9 hown hK hP 0 rfl rfl 3 (by decide) hw0 (fun _ h9 => h9) rfl dX9_extreme_45 ?_
      refine lv_iload_n hx hb dX9_extreme_48 rfl (lv_at hl 1 rfl) ?_
      refine kM_v (As := [.int (bI x0)]) (rest := []) (q0 := 7) ⟨hx, hb, hml, hown, hts⟩ (x_X8_goOn l D cy a _ (va_up (va_up J 224 w_19) 225 w_20) (va_up I 10 (I 10)) (va_up O 5 g_10) R RO g_11 (Y ++ [laC r_9 (nI 0) (zLy fl 0).1 (zLy fl 0).2]) x0   ) (cwV 1 hts gX9_extreme_X8_goOn rfl rfl rfl (by decide +kernel) ⟨Nat.le_of_ble_eq_true rfl, Nat.le_of_ble_eq_true rfl⟩) hK hN hP hD hS hA rfl rfl rfl hl.1 rfl (Nat.le_of_ble_eq_true rfl) dX9_extreme_49 ⟨Nat.le_of_ble_eq_true rfl, Nat.le_of_ble_eq_true rfl⟩ (fun u H locs hw hP hD hS => ?_)
      obtain ⟨w_24, w_25, hp_26, rfl⟩ := hw
      have hP : va_P D vwCl (CT cy a (va_up (va_up J 224 w_24) 225 w_25) (va_up I 10 (I 10)) (va_up O 5 g_10) R RO (g_11 ++ (Y ++ [laC r_9 (nI 0) (zLy fl 0).1 (zLy fl 0).2]))) H := hP
      have hD : va_D A (CT cy a (va_up (va_up J 224 w_24) 225 w_25) (va_up I 10 (I 10)) (va_up O 5 g_10) R RO (g_11 ++ (Y ++ [laC r_9 (nI 0) (zLy fl 0).1 (zLy fl 0).2]))) := hD
      refine lv_aload_n hx hb dX9_extreme_52 rfl (lv_at hl 0 rfl) ?_
      refine kM_r (As := []) (rest := []) (q0 := 0) ⟨hx, hb, hml, hown, hts⟩ (y_X9_knownLayings l D cy a _ (va_up (va_up J 224 w_24) 225 w_25) (va_up I 10 (I 10)) (va_up O 5 g_10) R RO g_11 (Y ++ [laC r_9 (nI 0) (zLy fl 0).1 (zLy fl 0).2])  fl S P (RCf_mono hmono_17 hRA) (wh_ng c_1) ⟨hM.1, hi_14, hi_15, hi_16, hM.2.2.2.2.1, hM.2.2.2.2.2.1, hM.2.2.2.2.2.2.1, hM.2.2.2.2.2.2.2.1, hRO0, hRO1, hRO2, hRO3⟩ hL_12) (cwV 0 hts gX9_extreme_X9_knownLayings rfl rfl rfl (by decide +kernel) ⟨Nat.le_of_ble_eq_true rfl, Nat.le_of_ble_eq_true rfl⟩) hK hN hP hD hS hA rfl rfl rfl hl.1 rfl (Nat.le_of_ble_eq_true rfl) dX9_extreme_53 ⟨Nat.le_of_ble_eq_true rfl, Nat.le_of_ble_eq_true rfl⟩ (fun u r_27 H locs hw hP hD hS => ?_)
      obtain ⟨g_28, g_29, g_30, g_31⟩ := u
      have htab_32 : tabF (bfx fl) g_30 0 := hw
      have hP : va_P D vwCl (CT cy a (va_up (va_up J 224 w_24) 225 w_25) (va_up I 10 (I 10)) (va_up O 5 (some r_27)) R RO ([(r_27, .inr (3, [.ref g_28, .ref g_29, .long fl, .int 1])), (g_28, .inl (cy 0, 16640, .inl g_30)), (g_29, .inl (cy 0, 512, .inl g_31))] ++ (Y ++ [laC r_9 (nI 0) (zLy fl 0).1 (zLy fl 0).2]))) H := hP
      have hD : va_D A (CT cy a (va_up (va_up J 224 w_24) 225 w_25) (va_up I 10 (I 10)) (va_up O 5 (some r_27)) R RO ([(r_27, .inr (3, [.ref g_28, .ref g_29, .long fl, .int 1])), (g_28, .inl (cy 0, 16640, .inl g_30)), (g_29, .inl (cy 0, 512, .inl g_31))] ++ (Y ++ [laC r_9 (nI 0) (zLy fl 0).1 (zLy fl 0).2]))) := hD
      refine lv_aload_n hx hb dX9_extreme_56 rfl (lv_at hl 0 rfl) ?_
      refine va_get (D := D) (ci := 8) (v := .ref (a 7)) (C := RX9) (T := TX9) (N := 11) hx hb hts hi9 hown hK hP 0 rfl rfl 3 (by decide) hw0 (fun _ h9 => h9) rfl dX9_extreme_57 ?_
      refine va_get (D := D) (ci := 7) (v := .long w_25) (C := RX8) (T := TX8) (N := 2) hx hb hts hi8 hown hK hP 7 rfl rfl 1 (by decide) hw1 (fun _ h9 => h9) rfl dX9_extreme_60 ?_
      refine kR_i (As := [.long w_25]) (rest := []) (q0 := 20) ⟨hx, hb, hml, hown, hts⟩ (x_X4_numberOf l D cy a _ (va_up (va_up J 224 w_24) 225 w_25) (va_up I 10 (I 10)) (va_up O 5 (some r_27)) R RO r_27 g_28 g_29 fl 1 g_30 g_31 (Or.inr rfl) (Y ++ [laC r_9 (nI 0) (zLy fl 0).1 (zLy fl 0).2]) w_25 _ (zx_fly (ng_pos (wh_ng c_1) (fun z => c_8 ((zk_tot htab_7 (wh_ng c_1)).trans z))) (zx_fin hp_21 hp_22 hp_26)) htab_32 ) (cwV 1 hts gX9_extreme_X4_numberOf rfl rfl rfl (by decide +kernel) ⟨Nat.le_of_ble_eq_true rfl, Nat.le_of_ble_eq_true rfl⟩) hK hN hP hD rfl rfl rfl hl.1 rfl (Nat.le_of_ble_eq_true rfl) dX9_extreme_63 ⟨Nat.le_of_ble_eq_true rfl, Nat.le_of_ble_eq_true rfl⟩ ?_
      exact wret_i hx hb hr hlocks ((va_up (va_up J 224 w_24) 225 w_25), (va_up I 10 (I 10)), (va_up O 5 (some r_27)), R, RO, [(r_27, .inr (3, [.ref g_28, .ref g_29, .long fl, .int 1])), (g_28, .inl (cy 0, 16640, .inl g_30)), (g_29, .inl (cy 0, 512, .inl g_31))], Y ++ [laC r_9 (nI 0) (zLy fl 0).1 (zLy fl 0).2]) ⟨w_24, w_25, (I 10), (some r_27), ([(r_27, .inr (3, [.ref g_28, .ref g_29, .long fl, .int 1])), (g_28, .inl (cy 0, 16640, .inl g_30)), (g_29, .inl (cy 0, 512, .inl g_31))]), (Y ++ [laC r_9 (nI 0) (zLy fl 0).1 (zLy fl 0).2]), ⟨(ax_2 c_1 (fun z => c_8 ((zk_tot htab_7 (wh_ng c_1)).trans z)) (zx_fin hp_21 hp_22 hp_26)), hmono_17, (Or.inr ⟨_, _, _, _, _, _, _, rfl, (Or.inr rfl), (fun _ => htab_32), rfl⟩)⟩, rfl⟩ hP hD hS dX9_extreme_66
    · refine lv_aload_n hx hb dX9_extreme_24 rfl (lv_at hl 0 rfl) ?_
      refine lv_ldc (v := (-100006)) hx hb hown hw2 dX9_extreme_25 ?_
      refine kM_i (As := [.int (-100006)]) (rest := []) (q0 := 0) ⟨hx, hb, hml, hown, hts⟩ (t_X9_finding l D cy a _ (va_up (va_up J 224 (J 224)) 225 (J 225)) (va_up I 10 (I 10)) (va_up O 5 (some r_2)) R RO ([(r_2, .inr (3, [.ref g_3, .ref g_4, .long fl, .int 1])), (g_3, .inl (cy 0, 16640, .inl g_5)), (g_4, .inl (cy 0, 512, .inl g_6))]) Y ((-100006) : Int32)   ) (cwV 1 hts gX9_extreme_X9_finding rfl rfl rfl (by decide +kernel) ⟨Nat.le_of_ble_eq_true rfl, Nat.le_of_ble_eq_true rfl⟩) hK hN hP hD hS hA rfl rfl rfl hl.1 rfl (Nat.le_of_ble_eq_true rfl) dX9_extreme_27 ⟨Nat.le_of_ble_eq_true rfl, Nat.le_of_ble_eq_true rfl⟩ (fun r_33 u H locs hw hP hD hS => ?_)
      obtain ⟨w_34, rfl, rfl⟩ := hw
      have hP : va_P D vwCl (CT cy a (va_up (va_up J 224 (J 224)) 225 (J 225)) (va_up I 10 w_34) (va_up O 5 (some r_2)) R RO ([(r_2, .inr (3, [.ref g_3, .ref g_4, .long fl, .int 1])), (g_3, .inl (cy 0, 16640, .inl g_5)), (g_4, .inl (cy 0, 512, .inl g_6))] ++ Y)) H := hP
      have hD : va_D A (CT cy a (va_up (va_up J 224 (J 224)) 225 (J 225)) (va_up I 10 w_34) (va_up O 5 (some r_2)) R RO ([(r_2, .inr (3, [.ref g_3, .ref g_4, .long fl, .int 1])), (g_3, .inl (cy 0, 16640, .inl g_5)), (g_4, .inl (cy 0, 512, .inl g_6))] ++ Y)) := hD
      refine W.widen (k := 10) (n := 51471) (Nat.le_of_ble_eq_true rfl) (Nat.le_of_ble_eq_true rfl) ?_
      exact wret_i hx hb hr hlocks ((va_up (va_up J 224 (J 224)) 225 (J 225)), (va_up I 10 w_34), (va_up O 5 (some r_2)), R, RO, [(r_2, .inr (3, [.ref g_3, .ref g_4, .long fl, .int 1])), (g_3, .inl (cy 0, 16640, .inl g_5)), (g_4, .inl (cy 0, 512, .inl g_6))], Y) ⟨(J 224), (J 225), w_34, (some r_2), ([(r_2, .inr (3, [.ref g_3, .ref g_4, .long fl, .int 1])), (g_3, .inl (cy 0, 16640, .inl g_5)), (g_4, .inl (cy 0, 512, .inl g_6))]), Y, ⟨(ax_1 c_1 ((zk_tot htab_7 (wh_ng c_1)).symm.trans c_8)), (fun _ h => h), (Or.inr ⟨_, _, _, _, _, _, _, rfl, (Or.inr rfl), (fun _ => htab_7), rfl⟩)⟩, rfl⟩ hP hD hS dX9_extreme_30
  · replace c_1 := bI_f c_1
    refine lv_aload_n hx hb dX9_extreme_7 rfl (lv_at hl 0 rfl) ?_
    refine lv_ldc (v := (-100004)) hx hb hown hw3 dX9_extreme_8 ?_
    refine kM_i (As := [.int (-100004)]) (rest := []) (q0 := 0) ⟨hx, hb, hml, hown, hts⟩ (t_X9_finding l D cy a _ (va_up (va_up J 224 (J 224)) 225 (J 225)) (va_up I 10 (I 10)) (va_up O 5 (O 5)) R RO LL Y ((-100004) : Int32)   ) (cwV 1 hts gX9_extreme_X9_finding rfl rfl rfl (by decide +kernel) ⟨Nat.le_of_ble_eq_true rfl, Nat.le_of_ble_eq_true rfl⟩) hK hN hP hD hS hA rfl rfl rfl hl.1 rfl (Nat.le_of_ble_eq_true rfl) dX9_extreme_10 ⟨Nat.le_of_ble_eq_true rfl, Nat.le_of_ble_eq_true rfl⟩ (fun r_35 u H locs hw hP hD hS => ?_)
    obtain ⟨w_36, rfl, rfl⟩ := hw
    have hP : va_P D vwCl (CT cy a (va_up (va_up J 224 (J 224)) 225 (J 225)) (va_up I 10 w_36) (va_up O 5 (O 5)) R RO (LL ++ Y)) H := hP
    have hD : va_D A (CT cy a (va_up (va_up J 224 (J 224)) 225 (J 225)) (va_up I 10 w_36) (va_up O 5 (O 5)) R RO (LL ++ Y)) := hD
    refine W.widen (k := 10) (n := 51471) (Nat.le_of_ble_eq_true rfl) (Nat.le_of_ble_eq_true rfl) ?_
    exact wret_i hx hb hr hlocks ((va_up (va_up J 224 (J 224)) 225 (J 225)), (va_up I 10 w_36), (va_up O 5 (O 5)), R, RO, LL, Y) ⟨(J 224), (J 225), w_36, (O 5), LL, Y, ⟨(ax_0 c_1), (fun _ h => h), hL⟩, rfl⟩ hP hD hS dX9_extreme_13
