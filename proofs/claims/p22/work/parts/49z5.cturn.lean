set_option maxHeartbeats 4000000 in
set_option maxRecDepth 100000 in
theorem x_X8_start (l : Launch) (D : va_G) (cy : Nat → ClassId) (a : Nat → Nat) (sz : Nat) (J : Nat → Int64) (I : Nat → Int32) (O : Nat → Option Nat) (R : Nat → Nat → Int32) (RO : Nat → Nat → Option Nat) (LL : va_W) (Y : va_W) (x0 : Nat) (y0 : Int32) (al0 ac0 : Int64) (hm0 : laC x0 y0 al0 ac0 ∈ Y) (x1 : Int64) : Met l yX8_start wsX8_start ({ frames := 0, cells := 0, slots := 0, locals := 0 }) (va_Pc [.ref (a 7), .ref x0, .long x1] (PW D cy sz (CT cy a J I O R RO (LL ++ Y)))) (va_Qv (fun (u : TS) => ∃ (w0 : Int64), ∃ (w1 : Int64), ((w0 = al0 &&& (x1 ^^^ (-1))) ∧ (w1 = ac0 &&& (x1 ^^^ (-1)))) ∧ u = ((va_up (va_up J 224 w0) 225 w1), I, O, R, RO, LL, Y)) (BW D (va_A (CT cy a J I O R RO (LL ++ Y)) sz) (CTu cy a)) (va_A (CT cy a J I O R RO (LL ++ Y)) sz)) 0 0 (va_A (CT cy a J I O R RO (LL ++ Y)) sz) := by
  refine Met.ofW (cc := cX8_start) (maxL := 4) (ret := none) (by decide) rfl ?_
  intro p e s m args below meth c s₁ B hml hv
  obtain ⟨rfl, rfl, hP, hK, hN, hD0⟩ := hv
  have hx := B.exec
  have hb := B.bytes
  have hr := B.returns
  have hts := atoms_spec (ws := wsX8_start) B.pre
  have hown : s.vm.findClass RX8 = some m.cls := findClass_of_methodNamed B.named
  have hlocks := B.notSynchronized
  have hw0 := hts (.fieldLink RX8 9 "ParquetLayer$Laying" "along" "J") (by decide +kernel)
  have hw1 := hts (.constantLong RX8 15 (-1)) (by decide +kernel)
  have hw2 := hts (.fieldLink RX8 17 "ParquetLayer$Turner" "along" "J") (by decide +kernel)
  have hw3 := hts (.fieldLink RX8 18 "ParquetLayer$Laying" "across" "J") (by decide +kernel)
  have hw4 := hts (.fieldLink RX8 21 "ParquetLayer$Turner" "across" "J") (by decide +kernel)
  have hi3 := ihX8_start_3
  have hi8 := ihX8_start_8
  have hD := hD0.self (sz := s.heap.size)
  generalize hAe : va_A (CT cy a J I O R RO (LL ++ Y)) s.heap.size = A at hD ⊢
  have hA : ∀ q : Nat, s.heap.size ≤ q → A q := fun q h => by rw [← hAe]; exact Or.inr h
  have hS : va_S A s.heap s.heap [] := va_S.rf
  have hl := lv_entry ([.ref (a 7), .ref x0, .long x1]) (n := 4) (Nat.le_of_ble_eq_true rfl)
  rw [lg_entry_eq]
  generalize (lg_sl ([.ref (a 7), .ref x0, .long x1]) ++ List.replicate (4 - (lg_sl ([.ref (a 7), .ref x0, .long x1])).length) Slot.unset).toArray = ls at hl ⊢
  have hl : lv_has ls 4 [(0, .ref (a 7)), (1, .ref x0), (2, .long x1)] := hl
  have hP : va_P D vwCl (CT cy a (va_up (va_up J 224 (J 224)) 225 (J 225)) I O R RO (LL ++ Y)) s.heap := hP
  have hD : va_D A (CT cy a (va_up (va_up J 224 (J 224)) 225 (J 225)) I O R RO (LL ++ Y)) := hD
  refine lv_aload_n hx hb dX8_start_0 rfl (lv_at hl 0 rfl) ?_
  refine lv_aload_n hx hb dX8_start_1 rfl (lv_at hl 1 rfl) ?_
  obtain ⟨k_1, hk_2⟩ : ∃ k : Nat, (CT cy a (va_up (va_up J 224 (J 224)) 225 (J 225)) I O R RO (LL ++ Y))[k]? = some (x0, .inr (2, [.int y0, .long al0, .long ac0])) := pixT hm0
  refine va_get (D := D) (ci := 2) (v := .long al0) (C := RX3) (T := TX3) (N := 3) hx hb hts hi3 hown hK hP k_1 hk_2 rfl 1 (by decide) hw0 (fun _ h9 => h9) rfl dX8_start_2 ?_
  refine lv_lload_n hx hb dX8_start_5 rfl (lv_at hl 2 rfl) ?_
  refine lv_ldc2 (v := (-1)) hx hb hown hw1 dX8_start_6 ?_
  refine lv_lxor hx hb dX8_start_9 ?_
  refine lv_land hx hb dX8_start_10 ?_
  refine va_put (D := D) (ci := 7) (v := .long (al0 &&& (x1 ^^^ (-1)))) (ty := .long) (C := RX8) (T := TX8) (N := 2) hx hb hts hi8 tyX8 tyX8_ok nmX8 hown hK hP hD hS 7 rfl rfl 0 (by decide) hw2 (fun _ h9 => h9) rfl (by decide +kernel) rfl rfl (Nat.le_of_ble_eq_true rfl) dX8_start_11 (fun H locs hP hD hS => ?_)
  have hP : va_P D vwCl (CT cy a (va_up (va_up J 224 (al0 &&& (x1 ^^^ (-1)))) 225 (J 225)) I O R RO (LL ++ Y)) H := hP
  have hD : va_D A (CT cy a (va_up (va_up J 224 (al0 &&& (x1 ^^^ (-1)))) 225 (J 225)) I O R RO (LL ++ Y)) := hD
  refine lv_aload_n hx hb dX8_start_14 rfl (lv_at hl 0 rfl) ?_
  refine lv_aload_n hx hb dX8_start_15 rfl (lv_at hl 1 rfl) ?_
  obtain ⟨k_3, hk_4⟩ : ∃ k : Nat, (CT cy a (va_up (va_up J 224 (al0 &&& (x1 ^^^ (-1)))) 225 (J 225)) I O R RO (LL ++ Y))[k]? = some (x0, .inr (2, [.int y0, .long al0, .long ac0])) := pixT hm0
  refine va_get (D := D) (ci := 2) (v := .long ac0) (C := RX3) (T := TX3) (N := 3) hx hb hts hi3 hown hK hP k_3 hk_4 rfl 2 (by decide) hw3 (fun _ h9 => h9) rfl dX8_start_16 ?_
  refine lv_lload_n hx hb dX8_start_19 rfl (lv_at hl 2 rfl) ?_
  refine lv_ldc2 (v := (-1)) hx hb hown hw1 dX8_start_20 ?_
  refine lv_lxor hx hb dX8_start_23 ?_
  refine lv_land hx hb dX8_start_24 ?_
  refine va_put (D := D) (ci := 7) (v := .long (ac0 &&& (x1 ^^^ (-1)))) (ty := .long) (C := RX8) (T := TX8) (N := 2) hx hb hts hi8 tyX8 tyX8_ok nmX8 hown hK hP hD hS 7 rfl rfl 1 (by decide) hw4 (fun _ h9 => h9) rfl (by decide +kernel) rfl rfl (Nat.le_of_ble_eq_true rfl) dX8_start_25 (fun H locs hP hD hS => ?_)
  have hP : va_P D vwCl (CT cy a (va_up (va_up J 224 (al0 &&& (x1 ^^^ (-1)))) 225 (ac0 &&& (x1 ^^^ (-1)))) I O R RO (LL ++ Y)) H := hP
  have hD : va_D A (CT cy a (va_up (va_up J 224 (al0 &&& (x1 ^^^ (-1)))) 225 (ac0 &&& (x1 ^^^ (-1)))) I O R RO (LL ++ Y)) := hD
  exact wret_v hx hb hr hlocks ((va_up (va_up J 224 (al0 &&& (x1 ^^^ (-1)))) 225 (ac0 &&& (x1 ^^^ (-1)))), I, O, R, RO, LL, Y) ⟨(al0 &&& (x1 ^^^ (-1))), (ac0 &&& (x1 ^^^ (-1))), ⟨rfl, rfl⟩, rfl⟩ hP hD hS dX8_start_28
set_option maxHeartbeats 4000000 in
set_option maxRecDepth 100000 in
theorem x_X8_lying (l : Launch) (D : va_G) (cy : Nat → ClassId) (a : Nat → Nat) (sz : Nat) (J : Nat → Int64) (I : Nat → Int32) (O : Nat → Option Nat) (R : Nat → Nat → Int32) (RO : Nat → Nat → Option Nat) (LL : va_W) (Y : va_W) (x0 : Nat) (hx0 : x0 < 64) : Met l yX8_lying wsX8_lying ({ frames := 1, cells := 0, slots := 0, locals := 20 }) (va_Pc [.ref (a 7), .int (nI x0)] (PW D cy sz (CT cy a J I O R RO (LL ++ Y)))) (vp_Si (fun r => r = (zhw (J 224) (J 225) x0))) 0 0 (fun _ => False) := by
  refine Met.ofW (cc := cX8_lying) (maxL := 6) (ret := (some .int)) (by decide) rfl ?_
  intro p e s m args below meth c s₁ B hml hv
  obtain ⟨rfl, rfl, hP, hK, hN, hD0⟩ := hv
  have hx := B.exec
  have hb := B.bytes
  have hr := B.returns
  have hts := atoms_spec (ws := wsX8_lying) B.pre
  have hown : s.vm.findClass RX8 = some m.cls := findClass_of_methodNamed B.named
  have hlocks := B.notSynchronized
  have hw0 := hts (.fieldLink RX8 17 "ParquetLayer$Turner" "along" "J") (by decide +kernel)
  have hw1 := hts (.fieldLink RX8 21 "ParquetLayer$Turner" "across" "J") (by decide +kernel)
  have hi8 := ihX8_lying_8
  have hD := hD0
  have hl := lv_entry ([.ref (a 7), .int (nI x0)]) (n := 6) (Nat.le_of_ble_eq_true rfl)
  rw [lg_entry_eq]
  generalize (lg_sl ([.ref (a 7), .int (nI x0)]) ++ List.replicate (6 - (lg_sl ([.ref (a 7), .int (nI x0)])).length) Slot.unset).toArray = ls at hl ⊢
  have hl : lv_has ls 6 [(0, .ref (a 7)), (1, .int (nI x0))] := hl
  refine lv_iload_n hx hb dX8_lying_0 rfl (lv_at hl 1 rfl) ?_
  refine kS_i (As := [.int (nI x0)]) (rest := []) ⟨hx, hb, hml, hown, hts⟩ (c_X8_isCorner l (nI x0)) (va_cwS 1 hts gX8_lying_X8_isCorner rfl rfl rfl (by decide +kernel) ⟨Nat.le_of_ble_eq_true rfl, Nat.le_of_ble_eq_true rfl⟩) rfl hl.1 rfl (Nat.le_of_ble_eq_true rfl) dX8_lying_1 ⟨Nat.le_of_ble_eq_true rfl, Nat.le_of_ble_eq_true rfl⟩ ?_
  refine lv_if_ne (tgt := 9) hx hb dX8_lying_4 (by decide) (fun c_1 => ?_) (fun c_1 => ?_)
  · replace c_1 := bI_t c_1
    refine lv_lconst (v := 1) hx hb dX8_lying_9 (by decide) ?_
    refine lv_iload_n hx hb dX8_lying_10 rfl (lv_at hl 1 rfl) ?_
    refine lv_lshl (v := (1 : Int64) <<< ((nI x0 : Int32).toInt64 &&& 63)) hx hb dX8_lying_11 rfl ?_
    refine lv_lconst (v := 1) hx hb dX8_lying_12 (by decide) ?_
    refine lv_iload_n hx hb dX8_lying_13 rfl (lv_at hl 1 rfl) ?_
    refine lv_bipush (v := 8) hx hb dX8_lying_14 (by decide) ?_
    refine lv_iadd hx hb dX8_lying_16 ?_
    refine lv_lshl (v := (1 : Int64) <<< (((nI x0) + 8 : Int32).toInt64 &&& 63)) hx hb dX8_lying_17 rfl ?_
    refine lv_lor hx hb dX8_lying_18 ?_
    refine lv_lstore_n (lv' := [(2, .long (((1 : Int64) <<< ((nI x0 : Int32).toInt64 &&& 63)) ||| ((1 : Int64) <<< (((nI x0) + 8 : Int32).toInt64 &&& 63)))), (0, .ref (a 7)), (1, .int (nI x0))]) hx hb dX8_lying_19 rfl hl (by decide) rfl (fun ls hl => ?_)
    refine lv_aload_n hx hb dX8_lying_20 rfl (lv_at hl 1 rfl) ?_
    refine va_get (D := D) (ci := 7) (v := .long (J 224)) (C := RX8) (T := TX8) (N := 2) hx hb hts hi8 hown hK hP 7 rfl rfl 0 (by decide) hw0 (fun _ h9 => h9) rfl dX8_lying_21 ?_
    refine lv_lload_n hx hb dX8_lying_24 rfl (lv_at hl 0 rfl) ?_
    refine lv_land hx hb dX8_lying_25 ?_
    refine lv_lload_n hx hb dX8_lying_26 rfl (lv_at hl 0 rfl) ?_
    refine W.lcmp hx hb dX8_lying_27 ?_
    refine lv_if_ne (tgt := 33) hx hb dX8_lying_28 (by decide) (fun c_2 => ?_) (fun c_2 => ?_)
    · replace c_2 := fun z => c_2 ((lg_cmp_eq _ _).mpr z)
      refine lv_lconst (v := 1) hx hb dX8_lying_33 (by decide) ?_
      refine lv_iload_n hx hb dX8_lying_34 rfl (lv_at hl 2 rfl) ?_
      refine lv_lshl (v := (1 : Int64) <<< ((nI x0 : Int32).toInt64 &&& 63)) hx hb dX8_lying_35 rfl ?_
      refine lv_lconst (v := 1) hx hb dX8_lying_36 (by decide) ?_
      refine lv_iload_n hx hb dX8_lying_37 rfl (lv_at hl 2 rfl) ?_
      refine lv_iconst (v := 1) hx hb dX8_lying_38 (by decide) ?_
      refine lv_iadd hx hb dX8_lying_39 ?_
      refine lv_lshl (v := (1 : Int64) <<< (((nI x0) + 1 : Int32).toInt64 &&& 63)) hx hb dX8_lying_40 rfl ?_
      refine lv_lor hx hb dX8_lying_41 ?_
      refine lv_lstore (lv' := [(4, .long (((1 : Int64) <<< ((nI x0 : Int32).toInt64 &&& 63)) ||| ((1 : Int64) <<< (((nI x0) + 1 : Int32).toInt64 &&& 63)))), (2, .long (((1 : Int64) <<< ((nI x0 : Int32).toInt64 &&& 63)) ||| ((1 : Int64) <<< (((nI x0) + 8 : Int32).toInt64 &&& 63)))), (0, .ref (a 7)), (1, .int (nI x0))]) hx hb dX8_lying_42 hl (by decide) rfl (fun ls hl => ?_)
      refine lv_aload_n hx hb dX8_lying_44 rfl (lv_at hl 2 rfl) ?_
      refine va_get (D := D) (ci := 7) (v := .long (J 225)) (C := RX8) (T := TX8) (N := 2) hx hb hts hi8 hown hK hP 7 rfl rfl 1 (by decide) hw1 (fun _ h9 => h9) rfl dX8_lying_45 ?_
      refine lv_lload hx hb dX8_lying_48 (lv_at hl 0 rfl) ?_
      refine lv_land hx hb dX8_lying_50 ?_
      refine lv_lload hx hb dX8_lying_51 (lv_at hl 0 rfl) ?_
      refine W.lcmp hx hb dX8_lying_53 ?_
      refine lv_if_ne (tgt := 61) hx hb dX8_lying_54 (by decide) (fun c_3 => ?_) (fun c_3 => ?_)
      · replace c_3 := fun z => c_3 ((lg_cmp_eq _ _).mpr z)
        refine lv_iconst (v := 0) hx hb dX8_lying_61 (by decide) ?_
        exact pret_i hx hb hr hlocks (zg_3 (zg_c hx0 c_1) c_2 c_3) dX8_lying_62
      · replace c_3 := (lg_cmp_eq _ _).mp c_3
        refine lv_iconst (v := 2) hx hb dX8_lying_57 (by decide) ?_
        refine lv_goto (tgt := 62) hx hb dX8_lying_58 (by decide) ?_
        exact pret_i hx hb hr hlocks (zg_2 (zg_c hx0 c_1) c_2 c_3) dX8_lying_62
    · replace c_2 := (lg_cmp_eq _ _).mp c_2
      refine lv_iconst (v := 1) hx hb dX8_lying_31 (by decide) ?_
      exact pret_i hx hb hr hlocks (zg_1 (zg_c hx0 c_1) c_2) dX8_lying_32
  · replace c_1 := bI_f c_1
    refine lv_iconst (v := 0) hx hb dX8_lying_7 (by decide) ?_
    exact pret_i hx hb hr hlocks (zg_0 hx0 c_1) dX8_lying_8
set_option maxHeartbeats 4000000 in
set_option maxRecDepth 100000 in
theorem x_X8_lift (l : Launch) (D : va_G) (cy : Nat → ClassId) (a : Nat → Nat) (sz : Nat) (J : Nat → Int64) (I : Nat → Int32) (O : Nat → Option Nat) (R : Nat → Nat → Int32) (RO : Nat → Nat → Option Nat) (LL : va_W) (Y : va_W) (x0 : Nat) (hx0 : x0 < 64) : Met l yX8_lift wsX8_lift ({ frames := 2, cells := 0, slots := 0, locals := 45 }) (va_Pc [.ref (a 7), .int (nI x0)] (PW D cy sz (CT cy a J I O R RO (LL ++ Y)))) (vp_Si (fun r => r = (zlf (J 224) (J 225) x0))) 0 0 (fun _ => False) := by
  refine Met.ofW (cc := cX8_lift) (maxL := 3) (ret := (some .int)) (by decide) rfl ?_
  intro p e s m args below meth c s₁ B hml hv
  obtain ⟨rfl, rfl, hP, hK, hN, hD0⟩ := hv
  have hx := B.exec
  have hb := B.bytes
  have hr := B.returns
  have hts := atoms_spec (ws := wsX8_lift) B.pre
  have hown : s.vm.findClass RX8 = some m.cls := findClass_of_methodNamed B.named
  have hlocks := B.notSynchronized
  have hw0 := hts (.constantLong RX8 32 (-6172840429334713771)) (by decide +kernel)
  have hD := hD0
  have hl := lv_entry ([.ref (a 7), .int (nI x0)]) (n := 3) (Nat.le_of_ble_eq_true rfl)
  rw [lg_entry_eq]
  generalize (lg_sl ([.ref (a 7), .int (nI x0)]) ++ List.replicate (3 - (lg_sl ([.ref (a 7), .int (nI x0)])).length) Slot.unset).toArray = ls at hl ⊢
  have hl : lv_has ls 3 [(0, .ref (a 7)), (1, .int (nI x0))] := hl
  refine lv_aload_n hx hb dX8_lift_0 rfl (lv_at hl 0 rfl) ?_
  refine lv_iload_n hx hb dX8_lift_1 rfl (lv_at hl 1 rfl) ?_
  refine kR_i (As := [.int (nI x0)]) (rest := []) (q0 := 7) ⟨hx, hb, hml, hown, hts⟩ (x_X8_lying l D cy a _ J I O R RO LL Y x0 hx0 ) (cwV 1 hts gX8_lift_X8_lying rfl rfl rfl (by decide +kernel) ⟨Nat.le_of_ble_eq_true rfl, Nat.le_of_ble_eq_true rfl⟩) hK hN hP hD rfl rfl rfl hl.1 rfl (Nat.le_of_ble_eq_true rfl) dX8_lift_2 ⟨Nat.le_of_ble_eq_true rfl, Nat.le_of_ble_eq_true rfl⟩ ?_
  refine lv_istore_n (lv' := [(2, .int (zhw (J 224) (J 225) x0)), (0, .ref (a 7)), (1, .int (nI x0))]) hx hb dX8_lift_5 rfl hl (by decide) rfl (fun ls hl => ?_)
  refine lv_iload_n hx hb dX8_lift_6 rfl (lv_at hl 0 rfl) ?_
  refine lv_if_ne (tgt := 12) hx hb dX8_lift_7 (by decide) (fun c_1 => ?_) (fun c_1 => ?_)
  · refine lv_iload_n hx hb dX8_lift_12 rfl (lv_at hl 0 rfl) ?_
    refine lv_iconst (v := 1) hx hb dX8_lift_13 (by decide) ?_
    refine lv_icmp_ne (tgt := 21) hx hb dX8_lift_14 (by decide) (fun c_2 => ?_) (fun c_2 => ?_)
    · refine lv_iconst (v := 0) hx hb dX8_lift_21 (by decide) ?_
      refine lv_ldc2 (v := (-6172840429334713771)) hx hb hown hw0 dX8_lift_22 ?_
      refine lv_iload_n hx hb dX8_lift_25 rfl (lv_at hl 2 rfl) ?_
      refine kS_i (As := [.long (-6172840429334713771), .int (nI x0)]) (rest := [.int 0]) ⟨hx, hb, hml, hown, hts⟩ (c_X1_holds l (-6172840429334713771) (nI x0)) (va_cwS 2 hts gX8_lift_X1_holds rfl rfl rfl (by decide +kernel) ⟨Nat.le_of_ble_eq_true rfl, Nat.le_of_ble_eq_true rfl⟩) rfl hl.1 rfl (Nat.le_of_ble_eq_true rfl) dX8_lift_26 ⟨Nat.le_of_ble_eq_true rfl, Nat.le_of_ble_eq_true rfl⟩ ?_
      refine lv_icmp_ne (tgt := 37) hx hb dX8_lift_29 (by decide) (fun c_3 => ?_) (fun c_3 => ?_)
      · refine lv_iconst (v := 4) hx hb dX8_lift_37 (by decide) ?_
        exact pret_i hx hb hr hlocks (zt_u (b := false) hx0 c_1 (decide_eq_false c_2).symm c_3) dX8_lift_38
      · refine lv_bipush (v := (-4)) hx hb dX8_lift_32 (by decide) ?_
        refine lv_goto (tgt := 38) hx hb dX8_lift_34 (by decide) ?_
        exact pret_i hx hb hr hlocks (zt_d (b := false) hx0 c_1 (decide_eq_false c_2).symm c_3) dX8_lift_38
    · refine lv_iconst (v := 1) hx hb dX8_lift_17 (by decide) ?_
      refine lv_goto (tgt := 22) hx hb dX8_lift_18 (by decide) ?_
      refine lv_ldc2 (v := (-6172840429334713771)) hx hb hown hw0 dX8_lift_22 ?_
      refine lv_iload_n hx hb dX8_lift_25 rfl (lv_at hl 2 rfl) ?_
      refine kS_i (As := [.long (-6172840429334713771), .int (nI x0)]) (rest := [.int 1]) ⟨hx, hb, hml, hown, hts⟩ (c_X1_holds l (-6172840429334713771) (nI x0)) (va_cwS 2 hts gX8_lift_X1_holds rfl rfl rfl (by decide +kernel) ⟨Nat.le_of_ble_eq_true rfl, Nat.le_of_ble_eq_true rfl⟩) rfl hl.1 rfl (Nat.le_of_ble_eq_true rfl) dX8_lift_26 ⟨Nat.le_of_ble_eq_true rfl, Nat.le_of_ble_eq_true rfl⟩ ?_
      refine lv_icmp_ne (tgt := 37) hx hb dX8_lift_29 (by decide) (fun c_4 => ?_) (fun c_4 => ?_)
      · refine lv_iconst (v := 4) hx hb dX8_lift_37 (by decide) ?_
        exact pret_i hx hb hr hlocks (zt_u (b := true) hx0 c_1 (decide_eq_true c_2).symm c_4) dX8_lift_38
      · refine lv_bipush (v := (-4)) hx hb dX8_lift_32 (by decide) ?_
        refine lv_goto (tgt := 38) hx hb dX8_lift_34 (by decide) ?_
        exact pret_i hx hb hr hlocks (zt_d (b := true) hx0 c_1 (decide_eq_true c_2).symm c_4) dX8_lift_38
  · refine lv_iconst (v := 0) hx hb dX8_lift_10 (by decide) ?_
    exact pret_i hx hb hr hlocks (zt_0 c_1) dX8_lift_11
set_option maxHeartbeats 4000000 in
set_option maxRecDepth 100000 in
theorem x_X8_flip (l : Launch) (D : va_G) (cy : Nat → ClassId) (a : Nat → Nat) (sz : Nat) (J : Nat → Int64) (I : Nat → Int32) (O : Nat → Option Nat) (R : Nat → Nat → Int32) (RO : Nat → Nat → Option Nat) (LL : va_W) (Y : va_W) (x0 : Nat) (hx0 : x0 < 55) : Met l yX8_flip wsX8_flip ({ frames := 0, cells := 0, slots := 0, locals := 0 }) (va_Pc [.ref (a 7), .int (nI x0)] (PW D cy sz (CT cy a J I O R RO (LL ++ Y)))) (va_Qv (fun (u : TS) => ∃ (w0 : Int64), ∃ (w1 : Int64), ((w0 = J 224 ^^^ m_alongAt (nI x0)) ∧ (w1 = J 225 ^^^ m_acrossAt (nI x0))) ∧ u = ((va_up (va_up J 224 w0) 225 w1), I, O, R, RO, LL, Y)) (BW D (va_A (CT cy a J I O R RO (LL ++ Y)) sz) (CTu cy a)) (va_A (CT cy a J I O R RO (LL ++ Y)) sz)) 0 0 (va_A (CT cy a J I O R RO (LL ++ Y)) sz) := by
  refine Met.ofW (cc := cX8_flip) (maxL := 2) (ret := none) (by decide) rfl ?_
  intro p e s m args below meth c s₁ B hml hv
  obtain ⟨rfl, rfl, hP, hK, hN, hD0⟩ := hv
  have hx := B.exec
  have hb := B.bytes
  have hr := B.returns
  have hts := atoms_spec (ws := wsX8_flip) B.pre
  have hown : s.vm.findClass RX8 = some m.cls := findClass_of_methodNamed B.named
  have hlocks := B.notSynchronized
  have hw0 := hts (.fieldLink RX8 17 "ParquetLayer$Turner" "along" "J") (by decide +kernel)
  have hw1 := hts (.fieldLink RX8 21 "ParquetLayer$Turner" "across" "J") (by decide +kernel)
  have hi8 := ihX8_flip_8
  have hD := hD0.self (sz := s.heap.size)
  generalize hAe : va_A (CT cy a J I O R RO (LL ++ Y)) s.heap.size = A at hD ⊢
  have hA : ∀ q : Nat, s.heap.size ≤ q → A q := fun q h => by rw [← hAe]; exact Or.inr h
  have hS : va_S A s.heap s.heap [] := va_S.rf
  have hl := lv_entry ([.ref (a 7), .int (nI x0)]) (n := 2) (Nat.le_of_ble_eq_true rfl)
  rw [lg_entry_eq]
  generalize (lg_sl ([.ref (a 7), .int (nI x0)]) ++ List.replicate (2 - (lg_sl ([.ref (a 7), .int (nI x0)])).length) Slot.unset).toArray = ls at hl ⊢
  have hl : lv_has ls 2 [(0, .ref (a 7)), (1, .int (nI x0))] := hl
  have hP : va_P D vwCl (CT cy a (va_up (va_up J 224 (J 224)) 225 (J 225)) I O R RO (LL ++ Y)) s.heap := hP
  have hD : va_D A (CT cy a (va_up (va_up J 224 (J 224)) 225 (J 225)) I O R RO (LL ++ Y)) := hD
  refine lv_aload_n hx hb dX8_flip_0 rfl (lv_at hl 0 rfl) ?_
  refine lv_dup hx hb dX8_flip_1 rfl ?_
  refine va_get (D := D) (ci := 7) (v := .long (J 224)) (C := RX8) (T := TX8) (N := 2) hx hb hts hi8 hown hK hP 7 rfl rfl 0 (by decide) hw0 (fun _ h9 => h9) rfl dX8_flip_2 ?_
  refine lv_lconst (v := 1) hx hb dX8_flip_5 (by decide) ?_
  refine lv_iload_n hx hb dX8_flip_6 rfl (lv_at hl 1 rfl) ?_
  refine lv_lshl (v := (1 : Int64) <<< ((nI x0 : Int32).toInt64 &&& 63)) hx hb dX8_flip_7 rfl ?_
  refine lv_lconst (v := 1) hx hb dX8_flip_8 (by decide) ?_
  refine lv_iload_n hx hb dX8_flip_9 rfl (lv_at hl 1 rfl) ?_
  refine lv_bipush (v := 8) hx hb dX8_flip_10 (by decide) ?_
  refine lv_iadd hx hb dX8_flip_12 ?_
  refine lv_lshl (v := (1 : Int64) <<< (((nI x0) + 8 : Int32).toInt64 &&& 63)) hx hb dX8_flip_13 rfl ?_
  refine lv_lor hx hb dX8_flip_14 ?_
  refine lv_lxor hx hb dX8_flip_15 ?_
  refine va_put (D := D) (ci := 7) (v := .long ((J 224) ^^^ (((1 : Int64) <<< ((nI x0 : Int32).toInt64 &&& 63)) ||| ((1 : Int64) <<< (((nI x0) + 8 : Int32).toInt64 &&& 63))))) (ty := .long) (C := RX8) (T := TX8) (N := 2) hx hb hts hi8 tyX8 tyX8_ok nmX8 hown hK hP hD hS 7 rfl rfl 0 (by decide) hw0 (fun _ h9 => h9) rfl (by decide +kernel) rfl rfl (Nat.le_of_ble_eq_true rfl) dX8_flip_16 (fun H locs hP hD hS => ?_)
  have hP : va_P D vwCl (CT cy a (va_up (va_up J 224 ((J 224) ^^^ (((1 : Int64) <<< ((nI x0 : Int32).toInt64 &&& 63)) ||| ((1 : Int64) <<< (((nI x0) + 8 : Int32).toInt64 &&& 63))))) 225 (J 225)) I O R RO (LL ++ Y)) H := hP
  have hD : va_D A (CT cy a (va_up (va_up J 224 ((J 224) ^^^ (((1 : Int64) <<< ((nI x0 : Int32).toInt64 &&& 63)) ||| ((1 : Int64) <<< (((nI x0) + 8 : Int32).toInt64 &&& 63))))) 225 (J 225)) I O R RO (LL ++ Y)) := hD
  refine lv_aload_n hx hb dX8_flip_19 rfl (lv_at hl 0 rfl) ?_
  refine lv_dup hx hb dX8_flip_20 rfl ?_
  refine va_get (D := D) (ci := 7) (v := .long (J 225)) (C := RX8) (T := TX8) (N := 2) hx hb hts hi8 hown hK hP 7 rfl rfl 1 (by decide) hw1 (fun _ h9 => h9) rfl dX8_flip_21 ?_
  refine lv_lconst (v := 1) hx hb dX8_flip_24 (by decide) ?_
  refine lv_iload_n hx hb dX8_flip_25 rfl (lv_at hl 1 rfl) ?_
  refine lv_lshl (v := (1 : Int64) <<< ((nI x0 : Int32).toInt64 &&& 63)) hx hb dX8_flip_26 rfl ?_
  refine lv_lconst (v := 1) hx hb dX8_flip_27 (by decide) ?_
  refine lv_iload_n hx hb dX8_flip_28 rfl (lv_at hl 1 rfl) ?_
  refine lv_iconst (v := 1) hx hb dX8_flip_29 (by decide) ?_
  refine lv_iadd hx hb dX8_flip_30 ?_
  refine lv_lshl (v := (1 : Int64) <<< (((nI x0) + 1 : Int32).toInt64 &&& 63)) hx hb dX8_flip_31 rfl ?_
  refine lv_lor hx hb dX8_flip_32 ?_
  refine lv_lxor hx hb dX8_flip_33 ?_
  refine va_put (D := D) (ci := 7) (v := .long ((J 225) ^^^ (((1 : Int64) <<< ((nI x0 : Int32).toInt64 &&& 63)) ||| ((1 : Int64) <<< (((nI x0) + 1 : Int32).toInt64 &&& 63))))) (ty := .long) (C := RX8) (T := TX8) (N := 2) hx hb hts hi8 tyX8 tyX8_ok nmX8 hown hK hP hD hS 7 rfl rfl 1 (by decide) hw1 (fun _ h9 => h9) rfl (by decide +kernel) rfl rfl (Nat.le_of_ble_eq_true rfl) dX8_flip_34 (fun H locs hP hD hS => ?_)
  have hP : va_P D vwCl (CT cy a (va_up (va_up J 224 ((J 224) ^^^ (((1 : Int64) <<< ((nI x0 : Int32).toInt64 &&& 63)) ||| ((1 : Int64) <<< (((nI x0) + 8 : Int32).toInt64 &&& 63))))) 225 ((J 225) ^^^ (((1 : Int64) <<< ((nI x0 : Int32).toInt64 &&& 63)) ||| ((1 : Int64) <<< (((nI x0) + 1 : Int32).toInt64 &&& 63))))) I O R RO (LL ++ Y)) H := hP
  have hD : va_D A (CT cy a (va_up (va_up J 224 ((J 224) ^^^ (((1 : Int64) <<< ((nI x0 : Int32).toInt64 &&& 63)) ||| ((1 : Int64) <<< (((nI x0) + 8 : Int32).toInt64 &&& 63))))) 225 ((J 225) ^^^ (((1 : Int64) <<< ((nI x0 : Int32).toInt64 &&& 63)) ||| ((1 : Int64) <<< (((nI x0) + 1 : Int32).toInt64 &&& 63))))) I O R RO (LL ++ Y)) := hD
  exact wret_v hx hb hr hlocks ((va_up (va_up J 224 ((J 224) ^^^ (((1 : Int64) <<< ((nI x0 : Int32).toInt64 &&& 63)) ||| ((1 : Int64) <<< (((nI x0) + 8 : Int32).toInt64 &&& 63))))) 225 ((J 225) ^^^ (((1 : Int64) <<< ((nI x0 : Int32).toInt64 &&& 63)) ||| ((1 : Int64) <<< (((nI x0) + 1 : Int32).toInt64 &&& 63))))), I, O, R, RO, LL, Y) ⟨((J 224) ^^^ (((1 : Int64) <<< ((nI x0 : Int32).toInt64 &&& 63)) ||| ((1 : Int64) <<< (((nI x0) + 8 : Int32).toInt64 &&& 63)))), ((J 225) ^^^ (((1 : Int64) <<< ((nI x0 : Int32).toInt64 &&& 63)) ||| ((1 : Int64) <<< (((nI x0) + 1 : Int32).toInt64 &&& 63)))), ⟨rfl, (congrArg (fun z => J 225 ^^^ z) (ac_3 ⟨x0, Nat.lt_trans hx0 (by decide)⟩))⟩, rfl⟩ hP hD hS dX8_flip_37
set_option maxHeartbeats 4000000 in
set_option maxRecDepth 100000 in
theorem x_X8_goOn (l : Launch) (D : va_G) (cy : Nat → ClassId) (a : Nat → Nat) (sz : Nat) (J : Nat → Int64) (I : Nat → Int32) (O : Nat → Option Nat) (R : Nat → Nat → Int32) (RO : Nat → Nat → Option Nat) (LL : va_W) (Y : va_W) (x0 : Bool) : Met l yX8_goOn wsX8_goOn ({ frames := 3, cells := 0, slots := 0, locals := 67 }) (va_Pc [.ref (a 7), .int (bI x0)] (PW D cy sz (CT cy a J I O R RO (LL ++ Y)))) (va_Qv (fun (u : TS) => ∃ (w0 : Int64), ∃ (w1 : Int64), (((w0, w1) = zit x0 1000 (J 224, J 225))) ∧ u = ((va_up (va_up J 224 w0) 225 w1), I, O, R, RO, LL, Y)) (BW D (va_A (CT cy a J I O R RO (LL ++ Y)) sz) (CTu cy a)) (va_A (CT cy a J I O R RO (LL ++ Y)) sz)) 0 0 (va_A (CT cy a J I O R RO (LL ++ Y)) sz) := by
  refine Met.ofW (cc := cX8_goOn) (maxL := 6) (ret := none) (by decide) rfl ?_
  intro p e s m args below meth c s₁ B hml hv
  obtain ⟨rfl, rfl, hP, hK, hN, hD0⟩ := hv
  have hx := B.exec
  have hb := B.bytes
  have hr := B.returns
  have hts := atoms_spec (ws := wsX8_goOn) B.pre
  have hown : s.vm.findClass RX8 = some m.cls := findClass_of_methodNamed B.named
  have hlocks := B.notSynchronized
  have hD := hD0.self (sz := s.heap.size)
  generalize hAe : va_A (CT cy a J I O R RO (LL ++ Y)) s.heap.size = A at hD ⊢
  have hA : ∀ q : Nat, s.heap.size ≤ q → A q := fun q h => by rw [← hAe]; exact Or.inr h
  have hS : va_S A s.heap s.heap [] := va_S.rf
  have hl := lv_entry ([.ref (a 7), .int (bI x0)]) (n := 6) (Nat.le_of_ble_eq_true rfl)
  rw [lg_entry_eq]
  generalize (lg_sl ([.ref (a 7), .int (bI x0)]) ++ List.replicate (6 - (lg_sl ([.ref (a 7), .int (bI x0)])).length) Slot.unset).toArray = ls at hl ⊢
  have hl : lv_has ls 6 [(0, .ref (a 7)), (1, .int (bI x0))] := hl
  have lp4 : ∀ (n4 : Nat), ∀ (r9 : Nat) (v2_4 : Bool) (m0_4 : Int64) (m1_4 : Int64), (r9 ≤ 1000) → ((m0_4, m1_4) = zit x0 r9 (J 224, J 225)) → (v2_4 = false → zsw x0 64 (m0_4, m1_4) = (m0_4, m1_4)) → (1000 - r9) < n4 → ∀ (H : Heap) (locs : List Loc), va_P D vwCl (CT cy a (va_up (va_up J 224 m0_4) 225 m1_4) I O R RO (LL ++ Y)) H → va_D A (CT cy a (va_up (va_up J 224 m0_4) 225 m1_4) I O R RO (LL ++ Y)) → va_S A s.heap H locs → ∀ (ls : Array Slot), lv_has ls 6 [(0, .ref (a 7)), (1, .int (bI x0)), (2, .int (bI v2_4)), (3, .int (nI r9))] → W p l e (headSpec wsX8_goOn ({ frames := 3, cells := 0, slots := 0, locals := 67 })).room s m ([.ref (a 7), .int (bI x0)] : List Value).toArray below meth c H locs 0 0 (MQ below (va_Qv (fun (u : TS) => ∃ (w0 : Int64), ∃ (w1 : Int64), (((w0, w1) = zit x0 1000 (J 224, J 225))) ∧ u = ((va_up (va_up J 224 w0) 225 w1), I, O, R, RO, LL, Y)) (BW D A (CTu cy a)) A) ([.ref (a 7), .int (bI x0)] : List Value).toArray s 0 0 A) (F0 m 4 ls []) := by
    intro n4
    induction n4 with
    | zero => intro r9 v2_4 m0_4 m1_4 hr9 hit hfx hn; exact absurd hn (Nat.not_lt_zero _)
    | succ n4 ih4 =>
      intro r9 v2_4 m0_4 m1_4 hr9 hit hfx hn4 H locs hP hD hS ls hl
      have lp20 : ∀ (n20 : Nat), ∀ (f9 : Nat) (v2_20 : Bool) (m0_20 : Int64) (m1_20 : Int64), (f9 ≤ 55) → (r9 < 1000) → ((m0_20, m1_20) = zsw x0 f9 (m0_4, m1_4)) → (v2_20 = zmv x0 f9 (m0_4, m1_4)) → (55 - f9) < n20 → ∀ (H : Heap) (locs : List Loc), va_P D vwCl (CT cy a (va_up (va_up J 224 m0_20) 225 m1_20) I O R RO (LL ++ Y)) H → va_D A (CT cy a (va_up (va_up J 224 m0_20) 225 m1_20) I O R RO (LL ++ Y)) → va_S A s.heap H locs → ∀ (ls : Array Slot), lv_has ls 6 [(0, .ref (a 7)), (1, .int (bI x0)), (2, .int (bI v2_20)), (3, .int (nI r9)), (4, .int (nI f9))] → W p l e (headSpec wsX8_goOn ({ frames := 3, cells := 0, slots := 0, locals := 67 })).room s m ([.ref (a 7), .int (bI x0)] : List Value).toArray below meth c H locs 0 0 (MQ below (va_Qv (fun (u : TS) => ∃ (w0 : Int64), ∃ (w1 : Int64), (((w0, w1) = zit x0 1000 (J 224, J 225))) ∧ u = ((va_up (va_up J 224 w0) 225 w1), I, O, R, RO, LL, Y)) (BW D A (CTu cy a)) A) ([.ref (a 7), .int (bI x0)] : List Value).toArray s 0 0 A) (F0 m 20 ls []) := by
        intro n20
        induction n20 with
        | zero => intro f9 v2_20 m0_20 m1_20 hf9 hlt_r9 hsw hvm hn; exact absurd hn (Nat.not_lt_zero _)
        | succ n20 ih20 =>
          intro f9 v2_20 m0_20 m1_20 hf9 hlt_r9 hsw hvm hn20 H locs hP hD hS ls hl
          refine lv_iload hx hb dX8_goOn_20 (lv_at hl 4 rfl) ?_
          refine lv_bipush (v := 55) hx hb dX8_goOn_22 (by decide) ?_
          refine lv_icmp_ge (tgt := 66) hx hb dX8_goOn_24 (by decide) (fun c_1 => ?_) (fun c_1 => ?_)
          · have hie_f9 := ctr_ge (N := 55) (by decide) hf9 c_1
            refine lv_iinc (v := nI (r9 + 1)) (lv' := [(3, .int (nI (r9 + 1))), (0, .ref (a 7)), (1, .int (bI x0)), (2, .int (bI v2_20)), (4, .int (nI f9))]) hx hb dX8_goOn_66 hl (k := 3) rfl (nI_1 _) (by decide) rfl (fun ls hl => ?_)
            refine lv_goto (tgt := 4) hx hb dX8_goOn_69 (by decide) ?_
            exact ih4 (r9 + 1) v2_20 m0_20 m1_20 hlt_r9 (zi_s5 hit hsw hie_f9) (zf_e5 hsw hie_f9 hvm) (lt_dec hlt_r9 hn4) _ _ hP hD hS ls (lv_sub hl [1, 2, 3, 0] rfl)
          · have hlt_f9 := ctr_lt (N := 55) (by decide) hf9 c_1
            refine lv_aload_n hx hb dX8_goOn_27 rfl (lv_at hl 0 rfl) ?_
            refine lv_iload hx hb dX8_goOn_28 (lv_at hl 4 rfl) ?_
            refine kR_i (As := [.int (nI f9)]) (rest := []) (q0 := 7) ⟨hx, hb, hml, hown, hts⟩ (x_X8_lift l D cy a _ (va_up (va_up J 224 m0_20) 225 m1_20) I O R RO LL Y f9 (Nat.lt_trans hlt_f9 (by decide)) ) (cwV 1 hts gX8_goOn_X8_lift rfl rfl rfl (by decide +kernel) ⟨Nat.le_of_ble_eq_true rfl, Nat.le_of_ble_eq_true rfl⟩) hK hN hP hD rfl rfl rfl hl.1 rfl (Nat.le_of_ble_eq_true rfl) dX8_goOn_30 ⟨Nat.le_of_ble_eq_true rfl, Nat.le_of_ble_eq_true rfl⟩ ?_
            refine lv_istore (lv' := [(5, .int (zlf m0_20 m1_20 f9)), (0, .ref (a 7)), (1, .int (bI x0)), (2, .int (bI v2_20)), (3, .int (nI r9)), (4, .int (nI f9))]) hx hb dX8_goOn_33 hl (by decide) rfl (fun ls hl => ?_)
            refine lv_iload_n hx hb dX8_goOn_35 rfl (lv_at hl 2 rfl) ?_
            refine lv_if_eq (tgt := 47) hx hb dX8_goOn_36 (by decide) (fun c_2 => ?_) (fun c_2 => ?_)
            · replace c_2 := bI_f c_2
              refine lv_iload hx hb dX8_goOn_47 (lv_at hl 0 rfl) ?_
              refine lv_if_ge (tgt := 60) hx hb dX8_goOn_49 (by decide) (fun c_3 => ?_) (fun c_3 => ?_)
              · refine lv_iinc (v := nI (f9 + 1)) (lv' := [(4, .int (nI (f9 + 1))), (5, .int (zlf m0_20 m1_20 f9)), (0, .ref (a 7)), (1, .int (bI x0)), (2, .int (bI v2_20)), (3, .int (nI r9))]) hx hb dX8_goOn_60 hl (k := 5) rfl (nI_1 _) (by decide) rfl (fun ls hl => ?_)
                refine lv_goto (tgt := 20) hx hb dX8_goOn_63 (by decide) ?_
                exact ih20 (f9 + 1) v2_20 m0_20 m1_20 hlt_f9 hlt_r9 (zs_n hsw (zu_0n c_2 c_3)) (zv_n hsw (zu_0n c_2 c_3) hvm) (lt_dec hlt_f9 hn20) _ _ hP hD hS ls (lv_sub hl [2, 3, 4, 5, 0] rfl)
              · refine lv_aload_n hx hb dX8_goOn_52 rfl (lv_at hl 1 rfl) ?_
                refine lv_iload hx hb dX8_goOn_53 (lv_at hl 5 rfl) ?_
                refine kM_v (As := [.int (nI f9)]) (rest := []) (q0 := 7) ⟨hx, hb, hml, hown, hts⟩ (x_X8_flip l D cy a _ (va_up (va_up J 224 m0_20) 225 m1_20) I O R RO LL Y f9 hlt_f9  ) (cwV 1 hts gX8_goOn_X8_flip rfl rfl rfl (by decide +kernel) ⟨Nat.le_of_ble_eq_true rfl, Nat.le_of_ble_eq_true rfl⟩) hK hN hP hD hS hA rfl rfl rfl hl.1 rfl (Nat.le_of_ble_eq_true rfl) dX8_goOn_55 ⟨Nat.le_of_ble_eq_true rfl, Nat.le_of_ble_eq_true rfl⟩ (fun u H locs hw hP hD hS => ?_)
                obtain ⟨w_5, w_6, ⟨hp_7, hp_8⟩, rfl⟩ := hw
                have hP : va_P D vwCl (CT cy a (va_up (va_up J 224 w_5) 225 w_6) I O R RO (LL ++ Y)) H := hP
                have hD : va_D A (CT cy a (va_up (va_up J 224 w_5) 225 w_6) I O R RO (LL ++ Y)) := hD
                refine lv_iconst (v := 1) hx hb dX8_goOn_58 (by decide) ?_
                refine lv_istore_n (lv' := [(2, .int 1), (5, .int (zlf m0_20 m1_20 f9)), (0, .ref (a 7)), (1, .int (bI x0)), (3, .int (nI r9)), (4, .int (nI f9))]) hx hb dX8_goOn_59 rfl hl (by decide) rfl (fun ls hl => ?_)
                refine lv_iinc (v := nI (f9 + 1)) (lv' := [(4, .int (nI (f9 + 1))), (2, .int 1), (5, .int (zlf m0_20 m1_20 f9)), (0, .ref (a 7)), (1, .int (bI x0)), (3, .int (nI r9))]) hx hb dX8_goOn_60 hl (k := 5) rfl (nI_1 _) (by decide) rfl (fun ls hl => ?_)
                refine lv_goto (tgt := 20) hx hb dX8_goOn_63 (by decide) ?_
                exact ih20 (f9 + 1) true w_5 w_6 hlt_f9 hlt_r9 (by rw [hp_7, hp_8]; exact zs_y hsw (zu_0y c_2 c_3)) (zv_y hsw (zu_0y c_2 c_3)) (lt_dec hlt_f9 hn20) _ _ hP hD hS ls (lv_sub hl [3, 4, 1, 5, 0] rfl)
            · replace c_2 := bI_t c_2
              refine lv_iload hx hb dX8_goOn_39 (lv_at hl 0 rfl) ?_
              refine lv_if_le (tgt := 60) hx hb dX8_goOn_41 (by decide) (fun c_9 => ?_) (fun c_9 => ?_)
              · refine lv_iinc (v := nI (f9 + 1)) (lv' := [(4, .int (nI (f9 + 1))), (5, .int (zlf m0_20 m1_20 f9)), (0, .ref (a 7)), (1, .int (bI x0)), (2, .int (bI v2_20)), (3, .int (nI r9))]) hx hb dX8_goOn_60 hl (k := 5) rfl (nI_1 _) (by decide) rfl (fun ls hl => ?_)
                refine lv_goto (tgt := 20) hx hb dX8_goOn_63 (by decide) ?_
                exact ih20 (f9 + 1) v2_20 m0_20 m1_20 hlt_f9 hlt_r9 (zs_n hsw (zu_1n c_2 c_9)) (zv_n hsw (zu_1n c_2 c_9) hvm) (lt_dec hlt_f9 hn20) _ _ hP hD hS ls (lv_sub hl [2, 3, 4, 5, 0] rfl)
              · refine lv_goto (tgt := 52) hx hb dX8_goOn_44 (by decide) ?_
                refine lv_aload_n hx hb dX8_goOn_52 rfl (lv_at hl 1 rfl) ?_
                refine lv_iload hx hb dX8_goOn_53 (lv_at hl 5 rfl) ?_
                refine kM_v (As := [.int (nI f9)]) (rest := []) (q0 := 7) ⟨hx, hb, hml, hown, hts⟩ (x_X8_flip l D cy a _ (va_up (va_up J 224 m0_20) 225 m1_20) I O R RO LL Y f9 hlt_f9  ) (cwV 1 hts gX8_goOn_X8_flip rfl rfl rfl (by decide +kernel) ⟨Nat.le_of_ble_eq_true rfl, Nat.le_of_ble_eq_true rfl⟩) hK hN hP hD hS hA rfl rfl rfl hl.1 rfl (Nat.le_of_ble_eq_true rfl) dX8_goOn_55 ⟨Nat.le_of_ble_eq_true rfl, Nat.le_of_ble_eq_true rfl⟩ (fun u H locs hw hP hD hS => ?_)
                obtain ⟨w_11, w_12, ⟨hp_13, hp_14⟩, rfl⟩ := hw
                have hP : va_P D vwCl (CT cy a (va_up (va_up J 224 w_11) 225 w_12) I O R RO (LL ++ Y)) H := hP
                have hD : va_D A (CT cy a (va_up (va_up J 224 w_11) 225 w_12) I O R RO (LL ++ Y)) := hD
                refine lv_iconst (v := 1) hx hb dX8_goOn_58 (by decide) ?_
                refine lv_istore_n (lv' := [(2, .int 1), (5, .int (zlf m0_20 m1_20 f9)), (0, .ref (a 7)), (1, .int (bI x0)), (3, .int (nI r9)), (4, .int (nI f9))]) hx hb dX8_goOn_59 rfl hl (by decide) rfl (fun ls hl => ?_)
                refine lv_iinc (v := nI (f9 + 1)) (lv' := [(4, .int (nI (f9 + 1))), (2, .int 1), (5, .int (zlf m0_20 m1_20 f9)), (0, .ref (a 7)), (1, .int (bI x0)), (3, .int (nI r9))]) hx hb dX8_goOn_60 hl (k := 5) rfl (nI_1 _) (by decide) rfl (fun ls hl => ?_)
                refine lv_goto (tgt := 20) hx hb dX8_goOn_63 (by decide) ?_
                exact ih20 (f9 + 1) true w_11 w_12 hlt_f9 hlt_r9 (by rw [hp_13, hp_14]; exact zs_y hsw (zu_1y c_2 c_9)) (zv_y hsw (zu_1y c_2 c_9)) (lt_dec hlt_f9 hn20) _ _ hP hD hS ls (lv_sub hl [3, 4, 1, 5, 0] rfl)
      refine lv_iload_n hx hb dX8_goOn_4 rfl (lv_at hl 2 rfl) ?_
      refine lv_if_eq (tgt := 72) hx hb dX8_goOn_5 (by decide) (fun c_15 => ?_) (fun c_15 => ?_)
      · replace c_15 := bI_f c_15
        exact wret_v hx hb hr hlocks ((va_up (va_up J 224 m0_4) 225 m1_4), I, O, R, RO, LL, Y) ⟨m0_4, m1_4, (zit_k hit (hfx c_15) hr9), rfl⟩ hP hD hS dX8_goOn_72
      · replace c_15 := bI_t c_15
        refine lv_iload_n hx hb dX8_goOn_8 rfl (lv_at hl 3 rfl) ?_
        refine lv_sipush (v := 1000) hx hb dX8_goOn_9 (by decide) ?_
        refine lv_icmp_ge (tgt := 72) hx hb dX8_goOn_12 (by decide) (fun c_16 => ?_) (fun c_16 => ?_)
        · have hie_r9 := ctr_ge (N := 1000) (by decide) hr9 c_16
          exact wret_v hx hb hr hlocks ((va_up (va_up J 224 m0_4) 225 m1_4), I, O, R, RO, LL, Y) ⟨m0_4, m1_4, (zi_1000 hit hie_r9), rfl⟩ hP hD hS dX8_goOn_72
        · have hlt_r9 := ctr_lt (N := 1000) (by decide) hr9 c_16
          refine lv_iconst (v := 0) hx hb dX8_goOn_15 (by decide) ?_
          refine lv_istore_n (lv' := [(2, .int 0), (0, .ref (a 7)), (1, .int (bI x0)), (3, .int (nI r9))]) hx hb dX8_goOn_16 rfl hl (by decide) rfl (fun ls hl => ?_)
          refine lv_iconst (v := 0) hx hb dX8_goOn_17 (by decide) ?_
          refine lv_istore (lv' := [(4, .int 0), (2, .int 0), (0, .ref (a 7)), (1, .int (bI x0)), (3, .int (nI r9))]) hx hb dX8_goOn_18 hl (by decide) rfl (fun ls hl => ?_)
          exact lp20 _ 0 false m0_4 m1_4 (Nat.zero_le _) hlt_r9 rfl rfl (Nat.lt_succ_self _) _ _ hP hD hS ls (lv_sub hl [2, 3, 1, 4, 0] rfl)
  have hP : va_P D vwCl (CT cy a (va_up (va_up J 224 (J 224)) 225 (J 225)) I O R RO (LL ++ Y)) s.heap := hP
  have hD : va_D A (CT cy a (va_up (va_up J 224 (J 224)) 225 (J 225)) I O R RO (LL ++ Y)) := hD
  refine lv_iconst (v := 1) hx hb dX8_goOn_0 (by decide) ?_
  refine lv_istore_n (lv' := [(2, .int 1), (0, .ref (a 7)), (1, .int (bI x0))]) hx hb dX8_goOn_1 rfl hl (by decide) rfl (fun ls hl => ?_)
  refine lv_iconst (v := 0) hx hb dX8_goOn_2 (by decide) ?_
  refine lv_istore_n (lv' := [(3, .int 0), (2, .int 1), (0, .ref (a 7)), (1, .int (bI x0))]) hx hb dX8_goOn_3 rfl hl (by decide) rfl (fun ls hl => ?_)
  exact lp4 _ 0 true (J 224) (J 225) (Nat.zero_le _) rfl (fun z => absurd z (by decide)) (Nat.lt_succ_self _) _ _ hP hD hS ls (lv_sub hl [2, 3, 1, 0] rfl)
