set_option maxHeartbeats 4000000 in
set_option maxRecDepth 100000 in
theorem y_X9_knownLayings (l : Launch) (D : va_G) (cy : Nat → ClassId) (a : Nat → Nat) (sz : Nat) (J : Nat → Int64) (I : Nat → Int32) (O : Nat → Option Nat) (R : Nat → Nat → Int32) (RO : Nat → Nat → Option Nat) (LL Y : va_W)  (fl : Int64) (S : List Int32) (P : List PE) (hRA : RCf Y (J 6) (O 7) (I 9) (RO 2) fl S P) (hng : S.any m_isG = false) (hM : CI a Y I O RO) (hL : LOK cy (O 5) LL) : Met l yX9_knownLayings wsX9_knownLayings ({ frames := 4, cells := 3, slots := 17156, locals := 99 }) (va_Pc [.ref (a 0)] (PW D cy sz (CT cy a J I O R RO (LL ++ Y)))) (va_Qr (fun u : Nat × Nat × (Nat → Int32) × (Nat → Int32) => tabF (bfx fl) u.2.2.1 0) (fun u r t => va_P D vwCl (CT cy a J I (va_up O 5 (some r)) R RO (lgC cy r u.1 u.2.1 fl 1 u.2.2.1 u.2.2.2 ++ Y)) t.heap ∧ va_D (va_A (CT cy a J I O R RO (LL ++ Y)) sz) (CT cy a J I (va_up O 5 (some r)) R RO (lgC cy r u.1 u.2.1 fl 1 u.2.2.1 u.2.2.2 ++ Y))) (va_A (CT cy a J I O R RO (LL ++ Y)) sz)) 3 17156 (va_A (CT cy a J I O R RO (LL ++ Y)) sz) := by
  refine Met.ofW (cc := cX9_knownLayings) (maxL := 1) (ret := (some (.object "ParquetLayer$Layings"))) (by decide) rfl ?_
  intro p e s m args below meth c s₁ B hml hv
  obtain ⟨rfl, rfl, hP, hK, hN, hD0⟩ := hv
  have hx := B.exec
  have hb := B.bytes
  have hr := B.returns
  have hts := atoms_spec (ws := wsX9_knownLayings) B.pre
  have hown : s.vm.findClass RX9 = some m.cls := findClass_of_methodNamed B.named
  have hlocks := B.notSynchronized
  have hw0 := hts (.fieldLink RX9 337 "ParquetLayer" "layings" "LParquetLayer$Layings;") (by decide +kernel)
  have hw1 := hts (.classLink RX9 175 RX4) (by decide +kernel)
  have hw2 := hts (.instantiable RX4 4) (by decide +kernel)
  have hw3 := hts (.initialized RX4) (by decide +kernel)
  have hw4 := hts (.instanceMethod yX4_init) (by decide +kernel)
  have hw5 := hts (.fieldLink RX9 48 "ParquetLayer" "fields" "J") (by decide +kernel)
  have hw6 := hts (.constantLong RX9 54 (-1)) (by decide +kernel)
  have hi4 := ihX9_knownLayings_4
  have hi9 := ihX9_knownLayings_9
  have hD := hD0.self (sz := s.heap.size)
  generalize hAe : va_A (CT cy a J I O R RO (LL ++ Y)) s.heap.size = A at hD ⊢
  have hA : ∀ q : Nat, s.heap.size ≤ q → A q := fun q h => by rw [← hAe]; exact Or.inr h
  have hS : va_S A s.heap s.heap [] := va_S.rf
  have hl := lv_entry ([.ref (a 0)]) (n := 1) (Nat.le_of_ble_eq_true rfl)
  rw [lg_entry_eq]
  generalize (lg_sl ([.ref (a 0)]) ++ List.replicate (1 - (lg_sl ([.ref (a 0)])).length) Slot.unset).toArray = ls at hl ⊢
  have hl : lv_has ls 1 [(0, .ref (a 0))] := hl
  have hRO0 := hM.2.2.2.2.2.2.2.2.1
  have hRO1 := hM.2.2.2.2.2.2.2.2.2.1
  have hRO2 := hM.2.2.2.2.2.2.2.2.2.2.1
  have hRO3 := hM.2.2.2.2.2.2.2.2.2.2.2
  have hP : va_P D vwCl (CT cy a J I (va_up O 5 (O 5)) R RO (LL ++ Y)) s.heap := hP
  have hD : va_D A (CT cy a J I (va_up O 5 (O 5)) R RO (LL ++ Y)) := hD
  rcases hL with ⟨h5, rfl⟩ | ⟨b0, b1, b2, jf, kn, fw, fp, h5, hkn, htb, rfl⟩
  · rw [h5] at hP hD
    refine lv_aload_n hx hb dX9_knownLayings_0 rfl (lv_at hl 0 rfl) ?_
    refine va_get (D := D) (ci := 8) (v := .null) (C := RX9) (T := TX9) (N := 11) hx hb hts hi9 hown hK hP 0 rfl rfl 5 (by decide) hw0 (fun _ h9 => h9) rfl dX9_knownLayings_1 ?_
    refine lv_ifnonnullN hx hb dX9_knownLayings_4 ?_
    refine lv_aload_n hx hb dX9_knownLayings_7 rfl (lv_at hl 0 rfl) ?_
    refine va_new (ci := 3) (fs := [.null, .null, .long 0, .int 0]) (C := RX4) (T := TX4) (N := 4) hx hb hts hi4 tyX4 tyX4_ok hown hw1 hw2 hw3 hK hP hD hS hA rfl (fun j hj => by rcases (show j = 0 ∨ j = 1 ∨ j = 2 ∨ j = 3 by omega) with rfl | rfl | rfl | rfl <;> rfl) (Nat.le_of_ble_eq_true rfl) (Nat.le_of_ble_eq_true rfl) dX9_knownLayings_8 (fun q_1 H hP hD hS => ?_)
    have hP : va_P D vwCl (CT cy a J I (va_up O 5 none) R RO ([] ++ Y) ++ [(q_1, .inr (3, [.null, .null, .long 0, .int 0]))]) H := hP
    have hD : va_D A (CT cy a J I (va_up O 5 none) R RO ([] ++ Y) ++ [(q_1, .inr (3, [.null, .null, .long 0, .int 0]))]) := hD
    refine lv_dup hx hb dX9_knownLayings_11 rfl ?_
    refine kNewN_v (As := []) (rest := [.ref q_1, .ref (a 0)]) (X := CT cy a J I (va_up O 5 none) R RO ([] ++ Y)) ⟨hx, hb, hml, hown, hts⟩ (ct_X4_init l D cy q_1 _ ) ⟨va_cnB 0 hts gX9_knownLayings_X4_init_n341 rfl rfl rfl hN.2.2.2.2.2.1 hw3 (by decide +kernel) ⟨Nat.le_of_ble_eq_true rfl, Nat.le_of_ble_eq_true rfl⟩, rfl, hw4⟩ hK hN hP hD hS hA rfl hl.1 rfl (Nat.le_of_ble_eq_true rfl) dX9_knownLayings_12 ⟨Nat.le_of_ble_eq_true rfl, Nat.le_of_ble_eq_true rfl⟩ (fun u H locs hw hP hD hS => ?_)
    obtain ⟨q_2, q_3⟩ := u
    have hP : va_P D vwCl (CT cy a J I (va_up O 5 none) R RO ([] ++ Y) ++ [(q_1, .inr (3, [.ref q_2, .ref q_3, .long 0, .int 0])), (q_2, .inl (cy 0, 16640, .inl (fun _ => 0))), (q_3, .inl (cy 0, 512, .inl (fun _ => 0)))]) H := hP
    have hD : va_D A (CT cy a J I (va_up O 5 none) R RO ([] ++ Y) ++ [(q_1, .inr (3, [.ref q_2, .ref q_3, .long 0, .int 0])), (q_2, .inl (cy 0, 16640, .inl (fun _ => 0))), (q_3, .inl (cy 0, 512, .inl (fun _ => 0)))]) := hD
    have hP : va_P D vwCl (CT cy a J I (va_up O 5 none) R RO ([(q_1, .inr (3, [.ref q_2, .ref q_3, .long 0, .int 0])), (q_2, .inl (cy 0, 16640, .inl (fun _ => 0))), (q_3, .inl (cy 0, 512, .inl (fun _ => 0)))] ++ Y)) H := P_perm (X := CT cy a J I (va_up O 5 none) R RO []) (Y := Y) (L := [(q_1, .inr (3, [.ref q_2, .ref q_3, .long 0, .int 0])), (q_2, .inl (cy 0, 16640, .inl (fun _ => 0))), (q_3, .inl (cy 0, 512, .inl (fun _ => 0)))]) hP
    have hD : va_D A (CT cy a J I (va_up O 5 none) R RO ([(q_1, .inr (3, [.ref q_2, .ref q_3, .long 0, .int 0])), (q_2, .inl (cy 0, 16640, .inl (fun _ => 0))), (q_3, .inl (cy 0, 512, .inl (fun _ => 0)))] ++ Y)) := D_perm (X := CT cy a J I (va_up O 5 none) R RO []) (Y := Y) (L := [(q_1, .inr (3, [.ref q_2, .ref q_3, .long 0, .int 0])), (q_2, .inl (cy 0, 16640, .inl (fun _ => 0))), (q_3, .inl (cy 0, 512, .inl (fun _ => 0)))]) hD
    refine va_put (D := D) (ci := 8) (v := .ref q_1) (ty := .object "ParquetLayer$Layings") (C := RX9) (T := TX9) (N := 11) hx hb hts hi9 tyX9 tyX9_ok nmX9 hown hK hP hD hS 0 rfl rfl 5 (by decide) hw0 (fun _ h9 => h9) rfl (by decide +kernel) rfl rfl (Nat.le_of_ble_eq_true rfl) dX9_knownLayings_15 (fun H locs hP hD hS => ?_)
    have hP : va_P D vwCl (CT cy a J I (va_up O 5 (some q_1)) R RO ([(q_1, .inr (3, [.ref q_2, .ref q_3, .long 0, .int 0])), (q_2, .inl (cy 0, 16640, .inl (fun _ => 0))), (q_3, .inl (cy 0, 512, .inl (fun _ => 0)))] ++ Y)) H := hP
    have hD : va_D A (CT cy a J I (va_up O 5 (some q_1)) R RO ([(q_1, .inr (3, [.ref q_2, .ref q_3, .long 0, .int 0])), (q_2, .inl (cy 0, 16640, .inl (fun _ => 0))), (q_3, .inl (cy 0, 512, .inl (fun _ => 0)))] ++ Y)) := hD
    refine lv_aload_n hx hb dX9_knownLayings_18 rfl (lv_at hl 0 rfl) ?_
    refine va_get (D := D) (ci := 8) (v := .ref q_1) (C := RX9) (T := TX9) (N := 11) hx hb hts hi9 hown hK hP 0 rfl rfl 5 (by decide) hw0 (fun _ h9 => h9) rfl dX9_knownLayings_19 ?_
    refine lv_aload_n hx hb dX9_knownLayings_22 rfl (lv_at hl 0 rfl) ?_
    refine va_get (D := D) (ci := 8) (v := .long (J 6)) (C := RX9) (T := TX9) (N := 11) hx hb hts hi9 hown hK hP 0 rfl rfl 6 (by decide) hw5 (fun _ h9 => h9) rfl dX9_knownLayings_23 ?_
    refine lv_aload_n hx hb dX9_knownLayings_26 rfl (lv_at hl 0 rfl) ?_
    refine kR_l (As := []) (rest := [.long (J 6), .ref q_1]) (q0 := 0) ⟨hx, hb, hml, hown, hts⟩ (x_X9_gluedFields l D cy a _ J I (va_up O 5 (some q_1)) R RO ([(q_1, .inr (3, [.ref q_2, .ref q_3, .long 0, .int 0])), (q_2, .inl (cy 0, 16640, .inl (fun _ => 0))), (q_3, .inl (cy 0, 512, .inl (fun _ => 0)))]) Y  fl S P hRA ⟨hM.1, hM.2.1, hM.2.2.1, hM.2.2.2.1, hM.2.2.2.2.1, hM.2.2.2.2.2.1, hM.2.2.2.2.2.2.1, hM.2.2.2.2.2.2.2.1, hRO0, hRO1, hRO2, hRO3⟩) (cwV 0 hts gX9_knownLayings_X9_gluedFields rfl rfl rfl (by decide +kernel) ⟨Nat.le_of_ble_eq_true rfl, Nat.le_of_ble_eq_true rfl⟩) hK hN hP hD rfl rfl rfl hl.1 rfl (Nat.le_of_ble_eq_true rfl) dX9_knownLayings_27 ⟨Nat.le_of_ble_eq_true rfl, Nat.le_of_ble_eq_true rfl⟩ ?_
    refine lv_ldc2 (v := (-1)) hx hb hown hw6 dX9_knownLayings_30 ?_
    refine lv_lxor hx hb dX9_knownLayings_33 ?_
    refine lv_land hx hb dX9_knownLayings_34 ?_
    refine kM_v (As := [.long ((J 6) &&& ((gOr 0 S) ^^^ (-1)))]) (rest := []) (q0 := 20) ⟨hx, hb, hml, hown, hts⟩ (t_X4_know l D cy a _ J I (va_up O 5 (some q_1)) R RO q_1 q_2 q_3 0 0 (fun _ => 0) (fun _ => 0) (Or.inl rfl) Y ((J 6) &&& ((gOr 0 S) ^^^ (-1))) (fun z => absurd z (by decide))  ) (cwV 1 hts gX9_knownLayings_X4_know rfl rfl rfl (by decide +kernel) ⟨Nat.le_of_ble_eq_true rfl, Nat.le_of_ble_eq_true rfl⟩) hK hN hP hD hS hA rfl rfl rfl hl.1 rfl (Nat.le_of_ble_eq_true rfl) dX9_knownLayings_35 ⟨Nat.le_of_ble_eq_true rfl, Nat.le_of_ble_eq_true rfl⟩ (fun u H locs hw hP hD hS => ?_)
    obtain ⟨g_5, g_6, g_7, ⟨hkn_8, hp_9, hp_10, hp_11⟩, rfl⟩ := hw
    have hP : va_P D vwCl (CT cy a J I (va_up O 5 (some q_1)) R RO ([(q_1, .inr (3, [.ref q_2, .ref q_3, .long g_5, .int g_6])), (q_2, .inl (cy 0, 16640, .inl g_7)), (q_3, .inl (cy 0, 512, .inl (fun _ => 0)))] ++ Y)) H := hP
    have hD : va_D A (CT cy a J I (va_up O 5 (some q_1)) R RO ([(q_1, .inr (3, [.ref q_2, .ref q_3, .long g_5, .int g_6])), (q_2, .inl (cy 0, 16640, .inl g_7)), (q_3, .inl (cy 0, 512, .inl (fun _ => 0)))] ++ Y)) := hD
    have ej_12 : g_5 = fl := hp_9.trans (by rw [hRA.1]; exact ng_and fl hng)
    rw [ej_12, hp_10] at hP hD
    rw [hp_9.symm, ej_12] at hp_11
    refine lv_aload_n hx hb dX9_knownLayings_38 rfl (lv_at hl 0 rfl) ?_
    refine va_get (D := D) (ci := 8) (v := .ref q_1) (C := RX9) (T := TX9) (N := 11) hx hb hts hi9 hown hK hP 0 rfl rfl 5 (by decide) hw0 (fun _ h9 => h9) rfl dX9_knownLayings_39 ?_
    exact wret_r hx hb hr hlocks (Or.inl ⟨_, rfl⟩) (q_2, q_3, g_7, (fun _ => 0)) hp_11 hP hD hS dX9_knownLayings_42
  · rw [h5] at hP hD
    refine lv_aload_n hx hb dX9_knownLayings_0 rfl (lv_at hl 0 rfl) ?_
    refine va_get (D := D) (ci := 8) (v := .ref b0) (C := RX9) (T := TX9) (N := 11) hx hb hts hi9 hown hK hP 0 rfl rfl 5 (by decide) hw0 (fun _ h9 => h9) rfl dX9_knownLayings_1 ?_
    refine lv_ifnonnull (tgt := 18) hx hb dX9_knownLayings_4 (by decide) ?_
    refine lv_aload_n hx hb dX9_knownLayings_18 rfl (lv_at hl 0 rfl) ?_
    refine va_get (D := D) (ci := 8) (v := .ref b0) (C := RX9) (T := TX9) (N := 11) hx hb hts hi9 hown hK hP 0 rfl rfl 5 (by decide) hw0 (fun _ h9 => h9) rfl dX9_knownLayings_19 ?_
    refine lv_aload_n hx hb dX9_knownLayings_22 rfl (lv_at hl 0 rfl) ?_
    refine va_get (D := D) (ci := 8) (v := .long (J 6)) (C := RX9) (T := TX9) (N := 11) hx hb hts hi9 hown hK hP 0 rfl rfl 6 (by decide) hw5 (fun _ h9 => h9) rfl dX9_knownLayings_23 ?_
    refine lv_aload_n hx hb dX9_knownLayings_26 rfl (lv_at hl 0 rfl) ?_
    refine kR_l (As := []) (rest := [.long (J 6), .ref b0]) (q0 := 0) ⟨hx, hb, hml, hown, hts⟩ (x_X9_gluedFields l D cy a _ J I (va_up O 5 (some b0)) R RO ([(b0, .inr (3, [.ref b1, .ref b2, .long jf, .int kn])), (b1, .inl (cy 0, 16640, .inl fw)), (b2, .inl (cy 0, 512, .inl fp))]) Y  fl S P hRA ⟨hM.1, hM.2.1, hM.2.2.1, hM.2.2.2.1, hM.2.2.2.2.1, hM.2.2.2.2.2.1, hM.2.2.2.2.2.2.1, hM.2.2.2.2.2.2.2.1, hRO0, hRO1, hRO2, hRO3⟩) (cwV 0 hts gX9_knownLayings_X9_gluedFields rfl rfl rfl (by decide +kernel) ⟨Nat.le_of_ble_eq_true rfl, Nat.le_of_ble_eq_true rfl⟩) hK hN hP hD rfl rfl rfl hl.1 rfl (Nat.le_of_ble_eq_true rfl) dX9_knownLayings_27 ⟨Nat.le_of_ble_eq_true rfl, Nat.le_of_ble_eq_true rfl⟩ ?_
    refine lv_ldc2 (v := (-1)) hx hb hown hw6 dX9_knownLayings_30 ?_
    refine lv_lxor hx hb dX9_knownLayings_33 ?_
    refine lv_land hx hb dX9_knownLayings_34 ?_
    refine kM_v (As := [.long ((J 6) &&& ((gOr 0 S) ^^^ (-1)))]) (rest := []) (q0 := 20) ⟨hx, hb, hml, hown, hts⟩ (t_X4_know l D cy a _ J I (va_up O 5 (some b0)) R RO b0 b1 b2 jf kn fw fp hkn Y ((J 6) &&& ((gOr 0 S) ^^^ (-1))) htb  ) (cwV 1 hts gX9_knownLayings_X4_know rfl rfl rfl (by decide +kernel) ⟨Nat.le_of_ble_eq_true rfl, Nat.le_of_ble_eq_true rfl⟩) hK hN hP hD hS hA rfl rfl rfl hl.1 rfl (Nat.le_of_ble_eq_true rfl) dX9_knownLayings_35 ⟨Nat.le_of_ble_eq_true rfl, Nat.le_of_ble_eq_true rfl⟩ (fun u H locs hw hP hD hS => ?_)
    obtain ⟨g_14, g_15, g_16, ⟨hkn_17, hp_18, hp_19, hp_20⟩, rfl⟩ := hw
    have hP : va_P D vwCl (CT cy a J I (va_up O 5 (some b0)) R RO ([(b0, .inr (3, [.ref b1, .ref b2, .long g_14, .int g_15])), (b1, .inl (cy 0, 16640, .inl g_16)), (b2, .inl (cy 0, 512, .inl fp))] ++ Y)) H := hP
    have hD : va_D A (CT cy a J I (va_up O 5 (some b0)) R RO ([(b0, .inr (3, [.ref b1, .ref b2, .long g_14, .int g_15])), (b1, .inl (cy 0, 16640, .inl g_16)), (b2, .inl (cy 0, 512, .inl fp))] ++ Y)) := hD
    have ej_21 : g_14 = fl := hp_18.trans (by rw [hRA.1]; exact ng_and fl hng)
    rw [ej_21, hp_19] at hP hD
    rw [hp_18.symm, ej_21] at hp_20
    refine lv_aload_n hx hb dX9_knownLayings_38 rfl (lv_at hl 0 rfl) ?_
    refine va_get (D := D) (ci := 8) (v := .ref b0) (C := RX9) (T := TX9) (N := 11) hx hb hts hi9 hown hK hP 0 rfl rfl 5 (by decide) hw0 (fun _ h9 => h9) rfl dX9_knownLayings_39 ?_
    refine W.widen (k := 3) (n := 17156) (Nat.le_of_ble_eq_true rfl) (Nat.le_of_ble_eq_true rfl) ?_
    exact wret_r hx hb hr hlocks (Or.inl ⟨_, rfl⟩) (b1, b2, g_16, fp) hp_20 hP hD hS dX9_knownLayings_42
set_option maxHeartbeats 4000000 in
set_option maxRecDepth 100000 in
theorem y_X9_layingOf (l : Launch) (D : va_G) (cy : Nat → ClassId) (a : Nat → Nat) (sz : Nat) (J : Nat → Int64) (I : Nat → Int32) (O : Nat → Option Nat) (R : Nat → Nat → Int32) (RO : Nat → Nat → Option Nat) (LL Y : va_W) (x0 : Nat) (fl : Int64) (S : List Int32) (P : List PE) (hRA : RCf Y (J 6) (O 7) (I 9) (RO 2) fl S P) (hng : S.any m_isG = false) (hzi : zIn (bfx fl) x0) (hM : CI a Y I O RO) (hL : LOK cy (O 5) LL) : Met l yX9_layingOf wsX9_layingOf ({ frames := 5, cells := 4, slots := 17159, locals := 119 }) (va_Pc [.ref (a 0), .int (nI x0)] (PW D cy sz (CT cy a J I O R RO (LL ++ Y)))) (va_Qr (fun u : Option Nat × va_W => LOK cy u.1 u.2) (fun u r t => va_P D vwCl (CT cy a J I (va_up O 5 u.1) R RO (u.2 ++ (Y ++ [laC r (nI x0) (zLy fl x0).1 (zLy fl x0).2]))) t.heap ∧ va_D (va_A (CT cy a J I O R RO (LL ++ Y)) sz) (CT cy a J I (va_up O 5 u.1) R RO (u.2 ++ (Y ++ [laC r (nI x0) (zLy fl x0).1 (zLy fl x0).2])))) (va_A (CT cy a J I O R RO (LL ++ Y)) sz)) 4 17159 (va_A (CT cy a J I O R RO (LL ++ Y)) sz) := by
  refine Met.ofW (cc := cX9_layingOf) (maxL := 7) (ret := (some (.object "ParquetLayer$Laying"))) (by decide) rfl ?_
  intro p e s m args below meth c s₁ B hml hv
  obtain ⟨rfl, rfl, hP, hK, hN, hD0⟩ := hv
  have hx := B.exec
  have hb := B.bytes
  have hr := B.returns
  have hts := atoms_spec (ws := wsX9_layingOf) B.pre
  have hown : s.vm.findClass RX9 = some m.cls := findClass_of_methodNamed B.named
  have hlocks := B.notSynchronized
  have hw0 := hts (.classLink RX9 166 RX3) (by decide +kernel)
  have hw1 := hts (.instantiable RX3 3) (by decide +kernel)
  have hw2 := hts (.initialized RX3) (by decide +kernel)
  have hw3 := hts (.instanceMethod yX3_init) (by decide +kernel)
  have hw4 := hts (.methodLink RX9 352 yX3_init) (by decide +kernel)
  have hi3 := ihX9_layingOf_3
  have hD := hD0.self (sz := s.heap.size)
  generalize hAe : va_A (CT cy a J I O R RO (LL ++ Y)) s.heap.size = A at hD ⊢
  have hA : ∀ q : Nat, s.heap.size ≤ q → A q := fun q h => by rw [← hAe]; exact Or.inr h
  have hS : va_S A s.heap s.heap [] := va_S.rf
  have hl := lv_entry ([.ref (a 0), .int (nI x0)]) (n := 7) (Nat.le_of_ble_eq_true rfl)
  rw [lg_entry_eq]
  generalize (lg_sl ([.ref (a 0), .int (nI x0)]) ++ List.replicate (7 - (lg_sl ([.ref (a 0), .int (nI x0)])).length) Slot.unset).toArray = ls at hl ⊢
  have hl : lv_has ls 7 [(0, .ref (a 0)), (1, .int (nI x0))] := hl
  have hRO0 := hM.2.2.2.2.2.2.2.2.1
  have hRO1 := hM.2.2.2.2.2.2.2.2.2.1
  have hRO2 := hM.2.2.2.2.2.2.2.2.2.2.1
  have hRO3 := hM.2.2.2.2.2.2.2.2.2.2.2
  have hP : va_P D vwCl (CT cy a J I (va_up O 5 (O 5)) R RO (LL ++ Y)) s.heap := hP
  have hD : va_D A (CT cy a J I (va_up O 5 (O 5)) R RO (LL ++ Y)) := hD
  refine lv_aload_n hx hb dX9_layingOf_0 rfl (lv_at hl 0 rfl) ?_
  refine kM_r (As := []) (rest := []) (q0 := 0) ⟨hx, hb, hml, hown, hts⟩ (y_X9_knownLayings l D cy a _ J I (va_up O 5 (O 5)) R RO LL Y  fl S P hRA hng ⟨hM.1, hM.2.1, hM.2.2.1, hM.2.2.2.1, hM.2.2.2.2.1, hM.2.2.2.2.2.1, hM.2.2.2.2.2.2.1, hM.2.2.2.2.2.2.2.1, hRO0, hRO1, hRO2, hRO3⟩ hL) (cwV 0 hts gX9_layingOf_X9_knownLayings rfl rfl rfl (by decide +kernel) ⟨Nat.le_of_ble_eq_true rfl, Nat.le_of_ble_eq_true rfl⟩) hK hN hP hD hS hA rfl rfl rfl hl.1 rfl (Nat.le_of_ble_eq_true rfl) dX9_layingOf_1 ⟨Nat.le_of_ble_eq_true rfl, Nat.le_of_ble_eq_true rfl⟩ (fun u r_1 H locs hw hP hD hS => ?_)
  obtain ⟨g_2, g_3, g_4, g_5⟩ := u
  have htab_6 : tabF (bfx fl) g_4 0 := hw
  have hP : va_P D vwCl (CT cy a J I (va_up O 5 (some r_1)) R RO ([(r_1, .inr (3, [.ref g_2, .ref g_3, .long fl, .int 1])), (g_2, .inl (cy 0, 16640, .inl g_4)), (g_3, .inl (cy 0, 512, .inl g_5))] ++ Y)) H := hP
  have hD : va_D A (CT cy a J I (va_up O 5 (some r_1)) R RO ([(r_1, .inr (3, [.ref g_2, .ref g_3, .long fl, .int 1])), (g_2, .inl (cy 0, 16640, .inl g_4)), (g_3, .inl (cy 0, 512, .inl g_5))] ++ Y)) := hD
  refine lv_astore_n (lv' := [(2, .ref r_1), (0, .ref (a 0)), (1, .int (nI x0))]) hx hb dX9_layingOf_4 rfl hl (by decide) rfl (fun ls hl => ?_)
  refine lv_aload_n hx hb dX9_layingOf_5 rfl (lv_at hl 0 rfl) ?_
  refine lv_iload_n hx hb dX9_layingOf_6 rfl (lv_at hl 2 rfl) ?_
  refine kR_l (As := [.int (nI x0)]) (rest := []) (q0 := 20) ⟨hx, hb, hml, hown, hts⟩ (x_X4_acrossOf l D cy a _ J I (va_up O 5 (some r_1)) R RO r_1 g_2 g_3 fl 1 g_4 g_5 (Or.inr rfl) Y x0 hzi htab_6 ) (cwV 1 hts gX9_layingOf_X4_acrossOf rfl rfl rfl (by decide +kernel) ⟨Nat.le_of_ble_eq_true rfl, Nat.le_of_ble_eq_true rfl⟩) hK hN hP hD rfl rfl rfl hl.1 rfl (Nat.le_of_ble_eq_true rfl) dX9_layingOf_7 ⟨Nat.le_of_ble_eq_true rfl, Nat.le_of_ble_eq_true rfl⟩ ?_
  refine lv_lstore_n (lv' := [(3, .long ((zst (bfx fl) x0 64).2.2.2)), (2, .ref r_1), (0, .ref (a 0)), (1, .int (nI x0))]) hx hb dX9_layingOf_10 rfl hl (by decide) rfl (fun ls hl => ?_)
  refine lv_aload_n hx hb dX9_layingOf_11 rfl (lv_at hl 1 rfl) ?_
  refine lv_lload_n hx hb dX9_layingOf_12 rfl (lv_at hl 0 rfl) ?_
  refine kR_l (As := [.long ((zst (bfx fl) x0 64).2.2.2)]) (rest := []) (q0 := 20) ⟨hx, hb, hml, hown, hts⟩ (x_X4_alongBeside l D cy a _ J I (va_up O 5 (some r_1)) R RO r_1 g_2 g_3 fl 1 g_4 g_5 (Or.inr rfl) Y ((zst (bfx fl) x0 64).2.2.2) (zst (bfx fl) x0 64).2.2.1 (zLy_LY hzi) ) (cwV 1 hts gX9_layingOf_X4_alongBeside rfl rfl rfl (by decide +kernel) ⟨Nat.le_of_ble_eq_true rfl, Nat.le_of_ble_eq_true rfl⟩) hK hN hP hD rfl rfl rfl hl.1 rfl (Nat.le_of_ble_eq_true rfl) dX9_layingOf_13 ⟨Nat.le_of_ble_eq_true rfl, Nat.le_of_ble_eq_true rfl⟩ ?_
  refine lv_lstore (lv' := [(5, .long ((zst (bfx fl) x0 64).2.2.1)), (3, .long ((zst (bfx fl) x0 64).2.2.2)), (2, .ref r_1), (0, .ref (a 0)), (1, .int (nI x0))]) hx hb dX9_layingOf_16 hl (by decide) rfl (fun ls hl => ?_)
  refine va_new (ci := 2) (fs := [.int 0, .long 0, .long 0]) (C := RX3) (T := TX3) (N := 3) hx hb hts hi3 tyX3 tyX3_ok hown hw0 hw1 hw2 hK hP hD hS hA rfl (fun j hj => by rcases (show j = 0 ∨ j = 1 ∨ j = 2 by omega) with rfl | rfl | rfl <;> rfl) (Nat.le_of_ble_eq_true rfl) (Nat.le_of_ble_eq_true rfl) dX9_layingOf_18 (fun q_7 H hP hD hS => ?_)
  have hP : va_P D vwCl (CT cy a J I (va_up O 5 (some r_1)) R RO ([(r_1, .inr (3, [.ref g_2, .ref g_3, .long fl, .int 1])), (g_2, .inl (cy 0, 16640, .inl g_4)), (g_3, .inl (cy 0, 512, .inl g_5))] ++ Y) ++ [(q_7, .inr (2, [.int 0, .long 0, .long 0]))]) H := hP
  have hD : va_D A (CT cy a J I (va_up O 5 (some r_1)) R RO ([(r_1, .inr (3, [.ref g_2, .ref g_3, .long fl, .int 1])), (g_2, .inl (cy 0, 16640, .inl g_4)), (g_3, .inl (cy 0, 512, .inl g_5))] ++ Y) ++ [(q_7, .inr (2, [.int 0, .long 0, .long 0]))]) := hD
  refine lv_dup hx hb dX9_layingOf_21 rfl ?_
  refine lv_iload_n hx hb dX9_layingOf_22 rfl (lv_at hl 4 rfl) ?_
  refine lv_lload hx hb dX9_layingOf_23 (lv_at hl 0 rfl) ?_
  refine lv_aload_n hx hb dX9_layingOf_25 rfl (lv_at hl 3 rfl) ?_
  refine lv_iconst (v := 0) hx hb dX9_layingOf_26 (by decide) ?_
  have hPb := P_left hP
  have hDb := D_left hD
  refine kR_l (As := [.int 0]) (rest := [.long ((zst (bfx fl) x0 64).2.2.1), .int (nI x0), .ref q_7, .ref q_7]) (q0 := 0) ⟨hx, hb, hml, hown, hts⟩ (x_X9_gluedStarts l D cy a _ J I (va_up O 5 (some r_1)) R RO ([(r_1, .inr (3, [.ref g_2, .ref g_3, .long fl, .int 1])), (g_2, .inl (cy 0, 16640, .inl g_4)), (g_3, .inl (cy 0, 512, .inl g_5))]) Y false fl S P hRA ⟨hM.1, hM.2.1, hM.2.2.1, hM.2.2.2.1, hM.2.2.2.2.1, hM.2.2.2.2.2.1, hM.2.2.2.2.2.2.1, hM.2.2.2.2.2.2.2.1, hRO0, hRO1, hRO2, hRO3⟩) (cwV 1 hts gX9_layingOf_X9_gluedStarts rfl rfl rfl (by decide +kernel) ⟨Nat.le_of_ble_eq_true rfl, Nat.le_of_ble_eq_true rfl⟩) hK hN hPb hDb rfl rfl rfl hl.1 rfl (Nat.le_of_ble_eq_true rfl) dX9_layingOf_27 ⟨Nat.le_of_ble_eq_true rfl, Nat.le_of_ble_eq_true rfl⟩ ?_
  refine lv_lor hx hb dX9_layingOf_30 ?_
  refine wtop_l (y := (zLy fl x0).1) (by rw [ng_st hng, zor0]; rfl) ?_
  refine lv_lload_n hx hb dX9_layingOf_31 rfl (lv_at hl 1 rfl) ?_
  refine lv_aload_n hx hb dX9_layingOf_32 rfl (lv_at hl 3 rfl) ?_
  refine lv_iconst (v := 1) hx hb dX9_layingOf_33 (by decide) ?_
  have hPb := P_left hP
  have hDb := D_left hD
  refine kR_l (As := [.int 1]) (rest := [.long ((zst (bfx fl) x0 64).2.2.2), .long ((zLy fl x0).1), .int (nI x0), .ref q_7, .ref q_7]) (q0 := 0) ⟨hx, hb, hml, hown, hts⟩ (x_X9_gluedStarts l D cy a _ J I (va_up O 5 (some r_1)) R RO ([(r_1, .inr (3, [.ref g_2, .ref g_3, .long fl, .int 1])), (g_2, .inl (cy 0, 16640, .inl g_4)), (g_3, .inl (cy 0, 512, .inl g_5))]) Y true fl S P hRA ⟨hM.1, hM.2.1, hM.2.2.1, hM.2.2.2.1, hM.2.2.2.2.1, hM.2.2.2.2.2.1, hM.2.2.2.2.2.2.1, hM.2.2.2.2.2.2.2.1, hRO0, hRO1, hRO2, hRO3⟩) (cwV 1 hts gX9_layingOf_X9_gluedStarts rfl rfl rfl (by decide +kernel) ⟨Nat.le_of_ble_eq_true rfl, Nat.le_of_ble_eq_true rfl⟩) hK hN hPb hDb rfl rfl rfl hl.1 rfl (Nat.le_of_ble_eq_true rfl) dX9_layingOf_34 ⟨Nat.le_of_ble_eq_true rfl, Nat.le_of_ble_eq_true rfl⟩ ?_
  refine lv_lor hx hb dX9_layingOf_37 ?_
  refine wtop_l (y := (zLy fl x0).2) (by rw [ng_st hng, zor0]; rfl) ?_
  refine kNew_v (As := [.int (nI x0), .long ((zLy fl x0).1), .long ((zLy fl x0).2)]) (rest := [.ref q_7]) (X := CT cy a J I (va_up O 5 (some r_1)) R RO ([(r_1, .inr (3, [.ref g_2, .ref g_3, .long fl, .int 1])), (g_2, .inl (cy 0, 16640, .inl g_4)), (g_3, .inl (cy 0, 512, .inl g_5))] ++ Y)) ⟨hx, hb, hml, hown, hts⟩ (ct_X3_init l D cy q_7 _ (nI x0) ((zLy fl x0).1) ((zLy fl x0).2)) (cwI 3 hts gX9_layingOf_X3_init rfl rfl rfl hw2 hw4 hw3 rfl (by decide +kernel) ⟨Nat.le_of_ble_eq_true rfl, Nat.le_of_ble_eq_true rfl⟩) hK hN hP hD hS hA rfl hl.1 rfl (Nat.le_of_ble_eq_true rfl) dX9_layingOf_38 ⟨Nat.le_of_ble_eq_true rfl, Nat.le_of_ble_eq_true rfl⟩ (fun u H locs hw hP hD hS => ?_)
  have hP : va_P D vwCl (CT cy a J I (va_up O 5 (some r_1)) R RO ([(r_1, .inr (3, [.ref g_2, .ref g_3, .long fl, .int 1])), (g_2, .inl (cy 0, 16640, .inl g_4)), (g_3, .inl (cy 0, 512, .inl g_5))] ++ Y) ++ [(q_7, .inr (2, [.int (nI x0), .long ((zLy fl x0).1), .long ((zLy fl x0).2)]))]) H := hP
  have hD : va_D A (CT cy a J I (va_up O 5 (some r_1)) R RO ([(r_1, .inr (3, [.ref g_2, .ref g_3, .long fl, .int 1])), (g_2, .inl (cy 0, 16640, .inl g_4)), (g_3, .inl (cy 0, 512, .inl g_5))] ++ Y) ++ [(q_7, .inr (2, [.int (nI x0), .long ((zLy fl x0).1), .long ((zLy fl x0).2)]))]) := hD
  have hP : va_P D vwCl (CT cy a J I (va_up O 5 (some r_1)) R RO ([(r_1, .inr (3, [.ref g_2, .ref g_3, .long fl, .int 1])), (g_2, .inl (cy 0, 16640, .inl g_4)), (g_3, .inl (cy 0, 512, .inl g_5))] ++ (Y ++ [(q_7, .inr (2, [.int (nI x0), .long ((zLy fl x0).1), .long ((zLy fl x0).2)]))]))) H := by rw [← List.append_assoc]; exact hP
  have hD : va_D A (CT cy a J I (va_up O 5 (some r_1)) R RO ([(r_1, .inr (3, [.ref g_2, .ref g_3, .long fl, .int 1])), (g_2, .inl (cy 0, 16640, .inl g_4)), (g_3, .inl (cy 0, 512, .inl g_5))] ++ (Y ++ [(q_7, .inr (2, [.int (nI x0), .long ((zLy fl x0).1), .long ((zLy fl x0).2)]))]))) := by rw [← List.append_assoc]; exact hD
  have hs_8 : ∀ c, c ∈ Y → c ∈ (Y ++ [(q_7, .inr (2, [.int (nI x0), .long ((zLy fl x0).1), .long ((zLy fl x0).2)]))]) := fun c h => List.mem_append_left _ h
  have hi_9 : chO (Y ++ [(q_7, .inr (2, [.int (nI x0), .long ((zLy fl x0).1), .long ((zLy fl x0).2)]))]) (O 7) := chO_mono hs_8 hM.2.1
  have hi_10 : layO (Y ++ [(q_7, .inr (2, [.int (nI x0), .long ((zLy fl x0).1), .long ((zLy fl x0).2)]))]) (O 8) := layO_mono hs_8 hM.2.2.1
  have hi_11 : ∀ i, i < 20 → pasO (Y ++ [(q_7, .inr (2, [.int (nI x0), .long ((zLy fl x0).1), .long ((zLy fl x0).2)]))]) ((RO 2) i) := pas_mono hs_8 hM.2.2.2.1
  have hmono_12 : ∀ c, c ∈ Y → c ∈ (Y ++ [(q_7, .inr (2, [.int (nI x0), .long ((zLy fl x0).1), .long ((zLy fl x0).2)]))]) := fun c h => hs_8 c ((fun _ h => h) c h)
  exact wret_r hx hb hr hlocks (Or.inl ⟨_, rfl⟩) (some r_1, [(r_1, .inr (3, [.ref g_2, .ref g_3, .long fl, .int 1])), (g_2, .inl (cy 0, 16640, .inl g_4)), (g_3, .inl (cy 0, 512, .inl g_5))]) (Or.inr ⟨_, _, _, _, _, _, _, rfl, (Or.inr rfl), (fun _ => htab_6), rfl⟩) hP hD hS dX9_layingOf_41
