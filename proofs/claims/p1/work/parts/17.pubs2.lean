theorem dX9_row_0 : decode cX9_row 0 = .ok (.iload_n 1, 1) := by decide +kernel
theorem dX9_row_1 : decode cX9_row 1 = .ok (.ifCond .lt 20, 3) := by decide +kernel
theorem dX9_row_21 : decode cX9_row 21 = .ok (.aload_n 0, 1) := by decide +kernel
theorem dX9_row_22 : decode cX9_row 22 = .ok (.ldc 43, 2) := by decide +kernel
set_option maxRecDepth 20000 in
theorem ggX9_row_X9_finding : GoodIn wsX9_row wsX9_finding := goodIn_r _ [9, 10, 58, 59, 60, 61, 62, 63, 64, 65, 66, 67, 68] (by decide +kernel) (by decide +kernel)
set_option maxRecDepth 20000 in
theorem gX9_row_X9_finding : GoodIn wsX9_row (wsV RX9 44 RX9 yX9_finding wsX9_finding) := goodIn_app (goodIn_of _ (by decide +kernel)) ggX9_row_X9_finding
theorem dX9_row_24 : decode cX9_row 24 = .ok (.invokevirtual 44, 3) := by decide +kernel
theorem dX9_row_27 : decode cX9_row 27 = .ok (.ireturn, 1) := by decide +kernel
theorem dX9_row_4 : decode cX9_row 4 = .ok (.iload_n 1, 1) := by decide +kernel
theorem dX9_row_5 : decode cX9_row 5 = .ok (.bipush 7, 2) := by decide +kernel
theorem dX9_row_7 : decode cX9_row 7 = .ok (.if_icmp .gt 14, 3) := by decide +kernel
theorem dX9_row_10 : decode cX9_row 10 = .ok (.iload_n 2, 1) := by decide +kernel
theorem dX9_row_11 : decode cX9_row 11 = .ok (.ifCond .lt 10, 3) := by decide +kernel
theorem dX9_row_14 : decode cX9_row 14 = .ok (.iload_n 2, 1) := by decide +kernel
theorem dX9_row_15 : decode cX9_row 15 = .ok (.sipush 255, 3) := by decide +kernel
theorem dX9_row_18 : decode cX9_row 18 = .ok (.if_icmp .le 10, 3) := by decide +kernel
theorem dX9_row_28 : decode cX9_row 28 = .ok (.aload_n 0, 1) := by decide +kernel
theorem dX9_row_29 : decode cX9_row 29 = .ok (.getfield 48, 3) := by decide +kernel
theorem dX9_row_32 : decode cX9_row 32 = .ok (.ldc2_w 52, 3) := by decide +kernel
theorem dX9_row_35 : decode cX9_row 35 = .ok (.bipush 8, 2) := by decide +kernel
theorem dX9_row_37 : decode cX9_row 37 = .ok (.iload_n 1, 1) := by decide +kernel
theorem dX9_row_38 : decode cX9_row 38 = .ok (.imul, 1) := by decide +kernel
theorem dX9_row_39 : decode cX9_row 39 = .ok (.lshl, 1) := by decide +kernel
theorem dX9_row_40 : decode cX9_row 40 = .ok (.ldc2_w 54, 3) := by decide +kernel
theorem dX9_row_43 : decode cX9_row 43 = .ok (.lxor, 1) := by decide +kernel
theorem dX9_row_44 : decode cX9_row 44 = .ok (.land, 1) := by decide +kernel
theorem dX9_row_45 : decode cX9_row 45 = .ok (.lstore_n 3, 1) := by decide +kernel
theorem dX9_row_46 : decode cX9_row 46 = .ok (.aload_n 0, 1) := by decide +kernel
theorem dX9_row_47 : decode cX9_row 47 = .ok (.lload_n 3, 1) := by decide +kernel
theorem dX9_row_48 : decode cX9_row 48 = .ok (.iload_n 2, 1) := by decide +kernel
theorem dX9_row_49 : decode cX9_row 49 = .ok (.i2l, 1) := by decide +kernel
theorem dX9_row_50 : decode cX9_row 50 = .ok (.bipush 8, 2) := by decide +kernel
theorem dX9_row_52 : decode cX9_row 52 = .ok (.iload_n 1, 1) := by decide +kernel
theorem dX9_row_53 : decode cX9_row 53 = .ok (.imul, 1) := by decide +kernel
theorem dX9_row_54 : decode cX9_row 54 = .ok (.lshl, 1) := by decide +kernel
theorem dX9_row_55 : decode cX9_row 55 = .ok (.lor, 1) := by decide +kernel
set_option maxRecDepth 20000 in
theorem ggX9_row_X9_becomeFloor : GoodIn wsX9_row wsX9_becomeFloor := goodIn_r _ [14, 15, 16, 4, 17, 18, 19, 20, 2, 21, 5, 6, 7, 8, 9, 10, 22, 23, 24, 25, 26, 27, 28, 29, 30, 31, 32, 33, 34, 35, 36, 37, 38, 39, 40, 41, 42, 43, 44, 45, 46, 47, 48, 49, 50, 51, 52, 53, 54, 55, 56, 57, 58, 59, 60, 61, 62, 63, 64, 65, 66, 67, 68, 69, 70, 71, 72, 73, 74, 75, 76, 77, 78] (by decide +kernel) (by decide +kernel)
set_option maxRecDepth 20000 in
theorem gX9_row_X9_becomeFloor : GoodIn wsX9_row (wsV RX9 56 RX9 yX9_becomeFloor wsX9_becomeFloor) := goodIn_app (goodIn_of _ (by decide +kernel)) ggX9_row_X9_becomeFloor
theorem dX9_row_56 : decode cX9_row 56 = .ok (.invokevirtual 56, 3) := by decide +kernel
theorem dX9_row_59 : decode cX9_row 59 = .ok (.ireturn, 1) := by decide +kernel
set_option maxRecDepth 20000 in
theorem ihX9_row_9 : ∀ w ∈ u_ws RX9 TX9 11, w ∈ wsX9_row := by decide +kernel
set_option maxHeartbeats 4000000 in
set_option maxRecDepth 100000 in
theorem xp_X9_row (l : Launch) (D : va_G) (cy : Nat → ClassId) (a : Nat → Nat) (sz : Nat) (RO : Nat → Nat → Option Nat) (x0 : Int32) (x1 : Int32) : Met l yX9_row wsX9_row ({ frames := 4, cells := 1, slots := 3, locals := 88 }) (va_Pc [.ref (a 0), .int x0, .int x1] (PW D cy sz (CW cy a (fun _ => 0) (fun _ => 0) (va_up (fun _ => none) 100 (some (a 4))) (fun _ _ => 0) RO))) (va_Qi (fun r (_ : Unit) => r = a_row x0 x1) (fun _ _ => True) (va_A (CW cy a (fun _ => 0) (fun _ => 0) (va_up (fun _ => none) 100 (some (a 4))) (fun _ _ => 0) RO) sz)) 1 3 (va_A (CW cy a (fun _ => 0) (fun _ => 0) (va_up (fun _ => none) 100 (some (a 4))) (fun _ _ => 0) RO) sz) := by
  refine Met.ofW (cc := cX9_row) (maxL := 5) (ret := (some .int)) (by decide) rfl ?_
  intro p e s m args below meth c s₁ B hml hv
  obtain ⟨rfl, rfl, hP, hK, hN, hD0⟩ := hv
  have hx := B.exec
  have hb := B.bytes
  have hr := B.returns
  have hts := atoms_spec (ws := wsX9_row) B.pre
  have hown : s.vm.findClass RX9 = some m.cls := findClass_of_methodNamed B.named
  have hlocks := B.notSynchronized
  have hw0 := hts (.constant RX9 43 (-100001)) (by decide +kernel)
  have hw1 := hts (.fieldLink RX9 48 "ParquetLayer" "fields" "J") (by decide +kernel)
  have hw2 := hts (.constantLong RX9 52 (255)) (by decide +kernel)
  have hw3 := hts (.constantLong RX9 54 (-1)) (by decide +kernel)
  have hi9 := ihX9_row_9
  have hD := hD0.self (sz := s.heap.size)
  generalize hAe : va_A (CW cy a (fun _ => 0) (fun _ => 0) (va_up (fun _ => none) 100 (some (a 4))) (fun _ _ => 0) RO) s.heap.size = A at hD ⊢
  have hA : ∀ q : Nat, s.heap.size ≤ q → A q := fun q h => by rw [← hAe]; exact Or.inr h
  have hS : va_S A s.heap s.heap [] := va_S.rf
  have hl := lv_entry ([.ref (a 0), .int x0, .int x1]) (n := 5) (Nat.le_of_ble_eq_true rfl)
  rw [lg_entry_eq]
  generalize (lg_sl ([.ref (a 0), .int x0, .int x1]) ++ List.replicate (5 - (lg_sl ([.ref (a 0), .int x0, .int x1])).length) Slot.unset).toArray = ls at hl ⊢
  have hl : lv_has ls 5 [(0, .ref (a 0)), (1, .int x0), (2, .int x1)] := hl
  refine lv_iload_n hx hb dX9_row_0 rfl (lv_at hl 1 rfl) ?_
  refine lv_if_lt (tgt := 21) hx hb dX9_row_1 (by decide) (fun c_1 => ?_) (fun c_1 => ?_)
  · refine lv_aload_n hx hb dX9_row_21 rfl (lv_at hl 0 rfl) ?_
    refine lv_ldc (v := (-100001)) hx hb hown hw0 dX9_row_22 ?_
    refine kM_i (As := [.int (-100001)]) (rest := []) (q0 := 0) ⟨hx, hb, hml, hown, hts⟩ (c_X9_finding l D cy a _ (fun _ => 0) (fun _ => 0) (va_up (fun _ => none) 100 (some (a 4))) (fun _ _ => 0) RO (-100001) ) (cwV 1 hts gX9_row_X9_finding rfl rfl rfl (by decide +kernel) ⟨Nat.le_of_ble_eq_true rfl, Nat.le_of_ble_eq_true rfl⟩) hK hN hP hD hS hA rfl rfl rfl hl.1 rfl (Nat.le_of_ble_eq_true rfl) dX9_row_24 ⟨Nat.le_of_ble_eq_true rfl, Nat.le_of_ble_eq_true rfl⟩ (fun r u H locs hw hP hD hS => ?_)
    obtain ⟨rfl, rfl⟩ := hw
    have hP : va_P D vwCl (CW cy a (fun _ => 0) (va_up (fun _ => 0) 10 (0 + 1)) (va_up (fun _ => none) 100 (some (a 4))) (fun _ _ => 0) RO) H := hP
    have hD : va_D A (CW cy a (fun _ => 0) (va_up (fun _ => 0) 10 (0 + 1)) (va_up (fun _ => none) 100 (some (a 4))) (fun _ _ => 0) RO) := hD
    refine W.widen (k := 1) (n := 3) (Nat.le_of_ble_eq_true rfl) (Nat.le_of_ble_eq_true rfl) ?_
    exact qret_i hx hb hr hlocks (row_no (Or.inl c_1)).symm hS dX9_row_27
  · refine lv_iload_n hx hb dX9_row_4 rfl (lv_at hl 1 rfl) ?_
    refine lv_bipush (v := 7) hx hb dX9_row_5 (by decide) ?_
    refine lv_icmp_gt (tgt := 21) hx hb dX9_row_7 (by decide) (fun c_2 => ?_) (fun c_2 => ?_)
    · refine lv_aload_n hx hb dX9_row_21 rfl (lv_at hl 0 rfl) ?_
      refine lv_ldc (v := (-100001)) hx hb hown hw0 dX9_row_22 ?_
      refine kM_i (As := [.int (-100001)]) (rest := []) (q0 := 0) ⟨hx, hb, hml, hown, hts⟩ (c_X9_finding l D cy a _ (fun _ => 0) (fun _ => 0) (va_up (fun _ => none) 100 (some (a 4))) (fun _ _ => 0) RO (-100001) ) (cwV 1 hts gX9_row_X9_finding rfl rfl rfl (by decide +kernel) ⟨Nat.le_of_ble_eq_true rfl, Nat.le_of_ble_eq_true rfl⟩) hK hN hP hD hS hA rfl rfl rfl hl.1 rfl (Nat.le_of_ble_eq_true rfl) dX9_row_24 ⟨Nat.le_of_ble_eq_true rfl, Nat.le_of_ble_eq_true rfl⟩ (fun r u H locs hw hP hD hS => ?_)
      obtain ⟨rfl, rfl⟩ := hw
      have hP : va_P D vwCl (CW cy a (fun _ => 0) (va_up (fun _ => 0) 10 (0 + 1)) (va_up (fun _ => none) 100 (some (a 4))) (fun _ _ => 0) RO) H := hP
      have hD : va_D A (CW cy a (fun _ => 0) (va_up (fun _ => 0) 10 (0 + 1)) (va_up (fun _ => none) 100 (some (a 4))) (fun _ _ => 0) RO) := hD
      refine W.widen (k := 1) (n := 3) (Nat.le_of_ble_eq_true rfl) (Nat.le_of_ble_eq_true rfl) ?_
      exact qret_i hx hb hr hlocks (row_no (Or.inr (Or.inl c_2))).symm hS dX9_row_27
    · refine lv_iload_n hx hb dX9_row_10 rfl (lv_at hl 2 rfl) ?_
      refine lv_if_lt (tgt := 21) hx hb dX9_row_11 (by decide) (fun c_3 => ?_) (fun c_3 => ?_)
      · refine lv_aload_n hx hb dX9_row_21 rfl (lv_at hl 0 rfl) ?_
        refine lv_ldc (v := (-100001)) hx hb hown hw0 dX9_row_22 ?_
        refine kM_i (As := [.int (-100001)]) (rest := []) (q0 := 0) ⟨hx, hb, hml, hown, hts⟩ (c_X9_finding l D cy a _ (fun _ => 0) (fun _ => 0) (va_up (fun _ => none) 100 (some (a 4))) (fun _ _ => 0) RO (-100001) ) (cwV 1 hts gX9_row_X9_finding rfl rfl rfl (by decide +kernel) ⟨Nat.le_of_ble_eq_true rfl, Nat.le_of_ble_eq_true rfl⟩) hK hN hP hD hS hA rfl rfl rfl hl.1 rfl (Nat.le_of_ble_eq_true rfl) dX9_row_24 ⟨Nat.le_of_ble_eq_true rfl, Nat.le_of_ble_eq_true rfl⟩ (fun r u H locs hw hP hD hS => ?_)
        obtain ⟨rfl, rfl⟩ := hw
        have hP : va_P D vwCl (CW cy a (fun _ => 0) (va_up (fun _ => 0) 10 (0 + 1)) (va_up (fun _ => none) 100 (some (a 4))) (fun _ _ => 0) RO) H := hP
        have hD : va_D A (CW cy a (fun _ => 0) (va_up (fun _ => 0) 10 (0 + 1)) (va_up (fun _ => none) 100 (some (a 4))) (fun _ _ => 0) RO) := hD
        refine W.widen (k := 1) (n := 3) (Nat.le_of_ble_eq_true rfl) (Nat.le_of_ble_eq_true rfl) ?_
        exact qret_i hx hb hr hlocks (row_no (Or.inr (Or.inr (Or.inl c_3)))).symm hS dX9_row_27
      · refine lv_iload_n hx hb dX9_row_14 rfl (lv_at hl 2 rfl) ?_
        refine lv_sipush (v := 255) hx hb dX9_row_15 (by decide) ?_
        refine lv_icmp_le (tgt := 28) hx hb dX9_row_18 (by decide) (fun c_4 => ?_) (fun c_4 => ?_)
        · refine lv_aload_n hx hb dX9_row_28 rfl (lv_at hl 0 rfl) ?_
          refine va_get (D := D) (ci := 8) (v := .long 0) (C := RX9) (T := TX9) (N := 11) hx hb hts hi9 hown hK hP 0 rfl rfl 6 (by decide) hw1 (fun _ h9 => h9) rfl dX9_row_29 ?_
          refine lv_ldc2 (v := 255) hx hb hown hw2 dX9_row_32 ?_
          refine lv_bipush (v := 8) hx hb dX9_row_35 (by decide) ?_
          refine lv_iload_n hx hb dX9_row_37 rfl (lv_at hl 1 rfl) ?_
          refine lv_imul hx hb dX9_row_38 ?_
          refine lv_lshl (v := (255 : Int64) <<< ((8 * x0 : Int32).toInt64 &&& 63)) hx hb dX9_row_39 rfl ?_
          refine lv_ldc2 (v := (-1)) hx hb hown hw3 dX9_row_40 ?_
          refine lv_lxor hx hb dX9_row_43 ?_
          refine lv_land hx hb dX9_row_44 ?_
          refine lv_lstore_n (lv' := [(3, .long (0 &&& (((255 : Int64) <<< ((8 * x0 : Int32).toInt64 &&& 63)) ^^^ (-1)))), (0, .ref (a 0)), (1, .int x0), (2, .int x1)]) hx hb dX9_row_45 rfl hl (by decide) rfl (fun ls hl => ?_)
          refine lv_aload_n hx hb dX9_row_46 rfl (lv_at hl 1 rfl) ?_
          refine lv_lload_n hx hb dX9_row_47 rfl (lv_at hl 0 rfl) ?_
          refine lv_iload_n hx hb dX9_row_48 rfl (lv_at hl 3 rfl) ?_
          refine lv_i2l (v := (x1 : Int32).toInt64) hx hb dX9_row_49 rfl ?_
          refine lv_bipush (v := 8) hx hb dX9_row_50 (by decide) ?_
          refine lv_iload_n hx hb dX9_row_52 rfl (lv_at hl 2 rfl) ?_
          refine lv_imul hx hb dX9_row_53 ?_
          refine lv_lshl (v := ((x1 : Int32).toInt64) <<< ((8 * x0 : Int32).toInt64 &&& 63)) hx hb dX9_row_54 rfl ?_
          refine lv_lor hx hb dX9_row_55 ?_
          refine wtop_l (y := rowset x0 x1) rfl ?_
          refine kM_i (As := [.long (rowset x0 x1)]) (rest := []) (q0 := 0) ⟨hx, hb, hml, hown, hts⟩ (hv_X9_becomeFloor l D cy a _ RO (rowset x0 x1) ) (cwV 1 hts gX9_row_X9_becomeFloor rfl rfl rfl (by decide +kernel) ⟨Nat.le_of_ble_eq_true rfl, Nat.le_of_ble_eq_true rfl⟩) hK hN hP hD hS hA rfl rfl rfl hl.1 rfl (Nat.le_of_ble_eq_true rfl) dX9_row_56 ⟨Nat.le_of_ble_eq_true rfl, Nat.le_of_ble_eq_true rfl⟩ (fun r u H locs hw hP hD hS => ?_)
          obtain ⟨z_5, z_6, z_7, z_8, z_9⟩ := u
          obtain ⟨rfl, -⟩ := hw
          have hP : va_P D vwCl (CW cy a z_5 z_6 z_7 z_8 z_9) H := hP
          have hD : va_D A (CW cy a z_5 z_6 z_7 z_8 z_9) := hD
          exact qret_i hx hb hr hlocks (row_eq c_1 c_2 c_3 c_4) hS dX9_row_59
        · refine lv_aload_n hx hb dX9_row_21 rfl (lv_at hl 0 rfl) ?_
          refine lv_ldc (v := (-100001)) hx hb hown hw0 dX9_row_22 ?_
          refine kM_i (As := [.int (-100001)]) (rest := []) (q0 := 0) ⟨hx, hb, hml, hown, hts⟩ (c_X9_finding l D cy a _ (fun _ => 0) (fun _ => 0) (va_up (fun _ => none) 100 (some (a 4))) (fun _ _ => 0) RO (-100001) ) (cwV 1 hts gX9_row_X9_finding rfl rfl rfl (by decide +kernel) ⟨Nat.le_of_ble_eq_true rfl, Nat.le_of_ble_eq_true rfl⟩) hK hN hP hD hS hA rfl rfl rfl hl.1 rfl (Nat.le_of_ble_eq_true rfl) dX9_row_24 ⟨Nat.le_of_ble_eq_true rfl, Nat.le_of_ble_eq_true rfl⟩ (fun r u H locs hw hP hD hS => ?_)
          obtain ⟨rfl, rfl⟩ := hw
          have hP : va_P D vwCl (CW cy a (fun _ => 0) (va_up (fun _ => 0) 10 (0 + 1)) (va_up (fun _ => none) 100 (some (a 4))) (fun _ _ => 0) RO) H := hP
          have hD : va_D A (CW cy a (fun _ => 0) (va_up (fun _ => 0) 10 (0 + 1)) (va_up (fun _ => none) 100 (some (a 4))) (fun _ _ => 0) RO) := hD
          refine W.widen (k := 1) (n := 3) (Nat.le_of_ble_eq_true rfl) (Nat.le_of_ble_eq_true rfl) ?_
          exact qret_i hx hb hr hlocks (row_no (Or.inr (Or.inr (Or.inr c_4)))).symm hS dX9_row_27
set_option maxHeartbeats 4000000 in
set_option maxRecDepth 100000 in
theorem c_X9_findingL (l : Launch) (D : va_G) (cy : Nat → ClassId) (a : Nat → Nat) (sz : Nat) (J : Nat → Int64) (I : Nat → Int32) (O : Nat → Option Nat) (R : Nat → Nat → Int32) (RO : Nat → Nat → Option Nat) (x0 : Int32) : Met l yX9_finding wsX9_finding ({ frames := 0, cells := 0, slots := 0, locals := 0 }) (va_Pc [.ref (a 0), .int x0] (PW D cy sz (CL cy a J I O R RO))) (va_Qi (fun r (u : CS) => r = x0 ∧ u = (J, (va_up I 10 ((I 10) + 1)), O, R, RO)) (BW D (va_A (CL cy a J I O R RO) sz) (CLu cy a)) (va_A (CL cy a J I O R RO) sz)) 0 0 (va_A (CL cy a J I O R RO) sz) := by
  refine Met.ofW (cc := cX9_finding) (maxL := 2) (ret := (some .int)) (by decide) rfl ?_
  intro p e s m args below meth c s₁ B hml hv
  obtain ⟨rfl, rfl, hP, hK, hN, hD0⟩ := hv
  have hx := B.exec
  have hb := B.bytes
  have hr := B.returns
  have hts := atoms_spec (ws := wsX9_finding) B.pre
  have hown : s.vm.findClass RX9 = some m.cls := findClass_of_methodNamed B.named
  have hlocks := B.notSynchronized
  have hw0 := hts (.fieldLink RX9 323 "ParquetLayer" "findings" "I") (by decide +kernel)
  have hi9 := ihX9_finding_9
  have hD := hD0.self (sz := s.heap.size)
  generalize hAe : va_A (CL cy a J I O R RO) s.heap.size = A at hD ⊢
  have hA : ∀ q : Nat, s.heap.size ≤ q → A q := fun q h => by rw [← hAe]; exact Or.inr h
  have hS : va_S A s.heap s.heap [] := va_S.rf
  have hl := lv_entry ([.ref (a 0), .int x0]) (n := 2) (Nat.le_of_ble_eq_true rfl)
  rw [lg_entry_eq]
  generalize (lg_sl ([.ref (a 0), .int x0]) ++ List.replicate (2 - (lg_sl ([.ref (a 0), .int x0])).length) Slot.unset).toArray = ls at hl ⊢
  have hl : lv_has ls 2 [(0, .ref (a 0)), (1, .int x0)] := hl
  refine lv_aload_n hx hb dX9_finding_0 rfl (lv_at hl 0 rfl) ?_
  refine lv_dup hx hb dX9_finding_1 rfl ?_
  refine va_get (D := D) (ci := 8) (v := .int (I 10)) (C := RX9) (T := TX9) (N := 11) hx hb hts hi9 hown hK hP 0 rfl rfl 10 (by decide) hw0 (fun _ h9 => h9) rfl dX9_finding_2 ?_
  refine lv_iconst (v := 1) hx hb dX9_finding_5 (by decide) ?_
  refine lv_iadd hx hb dX9_finding_6 ?_
  refine va_put (D := D) (ci := 8) (v := .int ((I 10) + 1)) (ty := .int) (C := RX9) (T := TX9) (N := 11) hx hb hts hi9 tyX9 tyX9_ok nmX9 hown hK hP hD hS 0 rfl rfl 10 (by decide) hw0 (fun _ h9 => h9) rfl (by decide +kernel) rfl rfl (Nat.le_of_ble_eq_true rfl) dX9_finding_7 (fun H locs hP hD hS => ?_)
  have hP : va_P D vwCl (CL cy a J (va_up I 10 ((I 10) + 1)) O R RO) H := hP
  have hD : va_D A (CL cy a J (va_up I 10 ((I 10) + 1)) O R RO) := hD
  refine lv_iload_n hx hb dX9_finding_10 rfl (lv_at hl 1 rfl) ?_
  exact wret_i hx hb hr hlocks (J, (va_up I 10 ((I 10) + 1)), O, R, RO) ⟨rfl, rfl⟩ hP hD hS dX9_finding_11
theorem dX9_lay_0 : decode cX9_lay 0 = .ok (.aload_n 0, 1) := by decide +kernel
theorem dX9_lay_1 : decode cX9_lay 1 = .ok (.iload_n 1, 1) := by decide +kernel
set_option maxRecDepth 20000 in
theorem ggX9_lay_X9_isLaying : GoodIn wsX9_lay wsX9_isLaying := goodIn_r _ [7, 8, 9, 10, 6, 11, 12, 13, 14, 15, 16, 17, 18, 19, 20, 21, 22, 23, 24, 25, 26, 27, 28, 29, 30, 31, 32, 33, 34, 35, 36, 37, 38, 39, 40, 41, 42, 43, 44, 45, 46, 47, 48, 49, 50, 51, 52, 53, 54, 55, 56, 57, 58, 59, 60, 61, 62, 63, 107, 108, 109, 110, 111, 112, 113, 114, 115, 116, 117, 118, 119, 120, 121, 122, 123, 124, 125, 126, 127, 128] (by decide +kernel) (by decide +kernel)
set_option maxRecDepth 20000 in
theorem gX9_lay_X9_isLaying : GoodIn wsX9_lay (wsV RX9 189 RX9 yX9_isLaying wsX9_isLaying) := goodIn_app (goodIn_of _ (by decide +kernel)) ggX9_lay_X9_isLaying
theorem dX9_lay_2 : decode cX9_lay 2 = .ok (.invokevirtual 189, 3) := by decide +kernel
theorem dX9_lay_5 : decode cX9_lay 5 = .ok (.ifCond .ne 10, 3) := by decide +kernel
theorem dX9_lay_8 : decode cX9_lay 8 = .ok (.aload_n 0, 1) := by decide +kernel
theorem dX9_lay_9 : decode cX9_lay 9 = .ok (.ldc 43, 2) := by decide +kernel
set_option maxRecDepth 20000 in
theorem ggX9_lay_X9_finding : GoodIn wsX9_lay wsX9_finding := goodIn_r _ [67, 68, 107, 108, 109, 110, 111, 112, 113, 114, 115, 116, 117] (by decide +kernel) (by decide +kernel)
set_option maxRecDepth 20000 in
theorem gX9_lay_X9_finding : GoodIn wsX9_lay (wsV RX9 44 RX9 yX9_finding wsX9_finding) := goodIn_app (goodIn_of _ (by decide +kernel)) ggX9_lay_X9_finding
theorem dX9_lay_11 : decode cX9_lay 11 = .ok (.invokevirtual 44, 3) := by decide +kernel
theorem dX9_lay_14 : decode cX9_lay 14 = .ok (.ireturn, 1) := by decide +kernel
set_option maxHeartbeats 4000000 in
set_option maxRecDepth 100000 in
theorem xp_lay_neg (l : Launch) (D : va_G) (cy : Nat → ClassId) (a : Nat → Nat) (sz : Nat) (RO : Nat → Nat → Option Nat) (x0 : Int32) (hn0 : x0 < 0) : Met l yX9_lay wsX9_lay ({ frames := 6, cells := 4, slots := 17159, locals := 200 }) (va_Pc [.ref (a 0), .int x0] (PW D cy sz (CW cy a (fun _ => 0) (fun _ => 0) (va_up (fun _ => none) 100 (some (a 4))) (fun _ _ => 0) RO))) (va_Qi (fun r (_ : Unit) => r = a_lay x0) (fun _ _ => True) (va_A (CW cy a (fun _ => 0) (fun _ => 0) (va_up (fun _ => none) 100 (some (a 4))) (fun _ _ => 0) RO) sz)) 4 17159 (va_A (CW cy a (fun _ => 0) (fun _ => 0) (va_up (fun _ => none) 100 (some (a 4))) (fun _ _ => 0) RO) sz) := by
  refine Met.ofW (cc := cX9_lay) (maxL := 2) (ret := (some .int)) (by decide) rfl ?_
  intro p e s m args below meth c s₁ B hml hv
  obtain ⟨rfl, rfl, hP, hK, hN, hD0⟩ := hv
  have hx := B.exec
  have hb := B.bytes
  have hr := B.returns
  have hts := atoms_spec (ws := wsX9_lay) B.pre
  have hown : s.vm.findClass RX9 = some m.cls := findClass_of_methodNamed B.named
  have hlocks := B.notSynchronized
  have hw0 := hts (.constant RX9 43 (-100001)) (by decide +kernel)
  have hD := hD0.self (sz := s.heap.size)
  generalize hAe : va_A (CW cy a (fun _ => 0) (fun _ => 0) (va_up (fun _ => none) 100 (some (a 4))) (fun _ _ => 0) RO) s.heap.size = A at hD ⊢
  have hA : ∀ q : Nat, s.heap.size ≤ q → A q := fun q h => by rw [← hAe]; exact Or.inr h
  have hS : va_S A s.heap s.heap [] := va_S.rf
  have hl := lv_entry ([.ref (a 0), .int x0]) (n := 2) (Nat.le_of_ble_eq_true rfl)
  rw [lg_entry_eq]
  generalize (lg_sl ([.ref (a 0), .int x0]) ++ List.replicate (2 - (lg_sl ([.ref (a 0), .int x0])).length) Slot.unset).toArray = ls at hl ⊢
  have hl : lv_has ls 2 [(0, .ref (a 0)), (1, .int x0)] := hl
  refine lv_aload_n hx hb dX9_lay_0 rfl (lv_at hl 0 rfl) ?_
  refine lv_iload_n hx hb dX9_lay_1 rfl (lv_at hl 1 rfl) ?_
  refine kR_i (As := [.int x0]) (rest := []) (q0 := 0) ⟨hx, hb, hml, hown, hts⟩ (c_isLaying_neg l D cy a _ RO x0 hn0) (cwV 1 hts gX9_lay_X9_isLaying rfl rfl rfl (by decide +kernel) ⟨Nat.le_of_ble_eq_true rfl, Nat.le_of_ble_eq_true rfl⟩) hK hN hP hD rfl rfl rfl hl.1 rfl (Nat.le_of_ble_eq_true rfl) dX9_lay_2 ⟨Nat.le_of_ble_eq_true rfl, Nat.le_of_ble_eq_true rfl⟩ ?_
  refine lv_if_ne (tgt := 15) hx hb dX9_lay_5 (by decide) (fun c_1 => absurd (by decide) c_1) (fun c_1 => ?_)
  refine lv_aload_n hx hb dX9_lay_8 rfl (lv_at hl 0 rfl) ?_
  refine lv_ldc (v := (-100001)) hx hb hown hw0 dX9_lay_9 ?_
  refine kM_i (As := [.int (-100001)]) (rest := []) (q0 := 0) ⟨hx, hb, hml, hown, hts⟩ (c_X9_finding l D cy a _ (fun _ => 0) (fun _ => 0) (va_up (fun _ => none) 100 (some (a 4))) (fun _ _ => 0) RO (-100001) ) (cwV 1 hts gX9_lay_X9_finding rfl rfl rfl (by decide +kernel) ⟨Nat.le_of_ble_eq_true rfl, Nat.le_of_ble_eq_true rfl⟩) hK hN hP hD hS hA rfl rfl rfl hl.1 rfl (Nat.le_of_ble_eq_true rfl) dX9_lay_11 ⟨Nat.le_of_ble_eq_true rfl, Nat.le_of_ble_eq_true rfl⟩ (fun r u H locs hw hP hD hS => ?_)
  obtain ⟨rfl, rfl⟩ := hw
  have hP : va_P D vwCl (CW cy a (fun _ => 0) (va_up (fun _ => 0) 10 (0 + 1)) (va_up (fun _ => none) 100 (some (a 4))) (fun _ _ => 0) RO) H := hP
  have hD : va_D A (CW cy a (fun _ => 0) (va_up (fun _ => 0) 10 (0 + 1)) (va_up (fun _ => none) 100 (some (a 4))) (fun _ _ => 0) RO) := hD
  refine W.widen (k := 4) (n := 17159) (Nat.le_of_ble_eq_true rfl) (Nat.le_of_ble_eq_true rfl) ?_
  exact qret_i hx hb hr hlocks (by rw [a_lay, if_neg (lay_no1 hn0)]) hS dX9_lay_14
theorem dX9_lay_15 : decode cX9_lay 15 = .ok (.aload_n 0, 1) := by decide +kernel
theorem dX9_lay_16 : decode cX9_lay 16 = .ok (.aload_n 0, 1) := by decide +kernel
theorem dX9_lay_17 : decode cX9_lay 17 = .ok (.iload_n 1, 1) := by decide +kernel
set_option maxRecDepth 20000 in
theorem ggX9_lay_X9_layingOf : GoodIn wsX9_lay wsX9_layingOf := goodIn_r _ [72, 73, 74, 75, 8, 9, 10, 6, 11, 12, 13, 14, 15, 16, 17, 18, 19, 20, 21, 22, 23, 24, 25, 26, 27, 28, 29, 30, 31, 32, 33, 34, 35, 36, 37, 38, 39, 40, 41, 42, 43, 44, 45, 46, 47, 48, 49, 50, 51, 52, 53, 54, 55, 56, 57, 58, 59, 76, 77, 78, 79, 80, 81, 82, 83, 84, 85, 86, 87, 88, 89, 90, 91, 92, 93, 94, 95, 96, 97, 98, 99, 100, 101, 102, 103, 104, 105, 106, 129, 130, 131, 107, 108, 109, 110, 111, 112, 113, 114, 115, 116, 117, 118, 119, 120, 121, 122, 123, 124, 125, 126, 127, 128] (by decide +kernel) (by decide +kernel)
set_option maxRecDepth 20000 in
theorem gX9_lay_X9_layingOf : GoodIn wsX9_lay (wsV RX9 192 RX9 yX9_layingOf wsX9_layingOf) := goodIn_app (goodIn_of _ (by decide +kernel)) ggX9_lay_X9_layingOf
theorem dX9_lay_18 : decode cX9_lay 18 = .ok (.invokevirtual 192, 3) := by decide +kernel
theorem dX9_lay_21 : decode cX9_lay 21 = .ok (.putfield 133, 3) := by decide +kernel
theorem dX9_lay_24 : decode cX9_lay 24 = .ok (.iconst 1, 1) := by decide +kernel
theorem dX9_lay_25 : decode cX9_lay 25 = .ok (.ireturn, 1) := by decide +kernel
set_option maxRecDepth 20000 in
theorem ihX9_lay_9 : ∀ w ∈ u_ws RX9 TX9 11, w ∈ wsX9_lay := by decide +kernel
set_option maxHeartbeats 4000000 in
set_option maxRecDepth 100000 in
theorem xp_lay_pos (l : Launch) (D : va_G) (cy : Nat → ClassId) (a : Nat → Nat) (sz : Nat) (RO : Nat → Nat → Option Nat) (x0 : Int32) (hn0 : ¬ x0 < 0) : Met l yX9_lay wsX9_lay ({ frames := 6, cells := 4, slots := 17159, locals := 200 }) (va_Pc [.ref (a 0), .int x0] (PW D cy sz (CW cy a (fun _ => 0) (fun _ => 0) (va_up (fun _ => none) 100 (some (a 4))) (fun _ _ => 0) RO))) (va_Qi (fun r (_ : Unit) => r = a_lay x0) (fun _ _ => True) (va_A (CW cy a (fun _ => 0) (fun _ => 0) (va_up (fun _ => none) 100 (some (a 4))) (fun _ _ => 0) RO) sz)) 4 17159 (va_A (CW cy a (fun _ => 0) (fun _ => 0) (va_up (fun _ => none) 100 (some (a 4))) (fun _ _ => 0) RO) sz) := by
  refine Met.ofW (cc := cX9_lay) (maxL := 2) (ret := (some .int)) (by decide) rfl ?_
  intro p e s m args below meth c s₁ B hml hv
  obtain ⟨rfl, rfl, hP, hK, hN, hD0⟩ := hv
  have hx := B.exec
  have hb := B.bytes
  have hr := B.returns
  have hts := atoms_spec (ws := wsX9_lay) B.pre
  have hown : s.vm.findClass RX9 = some m.cls := findClass_of_methodNamed B.named
  have hlocks := B.notSynchronized
  have hw0 := hts (.fieldLink RX9 133 "ParquetLayer" "hand" "LParquetLayer$Laying;") (by decide +kernel)
  have hw1 := hts (.constant RX9 43 (-100001)) (by decide +kernel)
  have hi9 := ihX9_lay_9
  have hD := hD0.self (sz := s.heap.size)
  generalize hAe : va_A (CW cy a (fun _ => 0) (fun _ => 0) (va_up (fun _ => none) 100 (some (a 4))) (fun _ _ => 0) RO) s.heap.size = A at hD ⊢
  have hA : ∀ q : Nat, s.heap.size ≤ q → A q := fun q h => by rw [← hAe]; exact Or.inr h
  have hS : va_S A s.heap s.heap [] := va_S.rf
  have hl := lv_entry ([.ref (a 0), .int x0]) (n := 2) (Nat.le_of_ble_eq_true rfl)
  rw [lg_entry_eq]
  generalize (lg_sl ([.ref (a 0), .int x0]) ++ List.replicate (2 - (lg_sl ([.ref (a 0), .int x0])).length) Slot.unset).toArray = ls at hl ⊢
  have hl : lv_has ls 2 [(0, .ref (a 0)), (1, .int x0)] := hl
  refine lv_aload_n hx hb dX9_lay_0 rfl (lv_at hl 0 rfl) ?_
  refine lv_iload_n hx hb dX9_lay_1 rfl (lv_at hl 1 rfl) ?_
  refine kM_i (As := [.int x0]) (rest := []) (q0 := 0) ⟨hx, hb, hml, hown, hts⟩ (tr_isLaying l D cy a _ RO x0 hn0) (cwV 1 hts gX9_lay_X9_isLaying rfl rfl rfl (by decide +kernel) ⟨Nat.le_of_ble_eq_true rfl, Nat.le_of_ble_eq_true rfl⟩) hK hN hP hD hS hA rfl rfl rfl hl.1 rfl (Nat.le_of_ble_eq_true rfl) dX9_lay_2 ⟨Nat.le_of_ble_eq_true rfl, Nat.le_of_ble_eq_true rfl⟩ (fun r u H locs hw hP hD hS => ?_)
  obtain ⟨q_1, q_2, q_3, W_4⟩ := u
  obtain ⟨rfl, hW_5⟩ := hw
  replace hW_5 : W_4 0 = 1 := hW_5
  have hP : va_P D vwCl (CL cy (ext a q_1 q_2 q_3) (fun _ => 0) (va_up (fun _ => 0) 643 1) (va_up (va_up (fun _ => none) 100 (some (a 4))) 5 (some q_1)) (va_up (fun _ _ => 0) 21 W_4) RO) H := hP
  have hD : va_D A (CL cy (ext a q_1 q_2 q_3) (fun _ => 0) (va_up (fun _ => 0) 643 1) (va_up (va_up (fun _ => none) 100 (some (a 4))) 5 (some q_1)) (va_up (fun _ _ => 0) 21 W_4) RO) := hD
  refine lv_if_ne (tgt := 15) hx hb dX9_lay_5 (by decide) (fun c_6 => ?_) (fun c_6 => ?_)
  · replace c_6 := bI_t c_6
    refine lv_aload_n hx hb dX9_lay_15 rfl (lv_at hl 0 rfl) ?_
    refine lv_aload_n hx hb dX9_lay_16 rfl (lv_at hl 0 rfl) ?_
    refine lv_iload_n hx hb dX9_lay_17 rfl (lv_at hl 1 rfl) ?_
    refine kM_r (As := [.int x0]) (rest := [.ref (a 0)]) (q0 := 0) ⟨hx, hb, hml, hown, hts⟩ (mr_layingOf l D cy (ext a q_1 q_2 q_3) _ RO x0 W_4 hW_5) (cwV 1 hts gX9_lay_X9_layingOf rfl rfl rfl (by decide +kernel) ⟨Nat.le_of_ble_eq_true rfl, Nat.le_of_ble_eq_true rfl⟩) hK hN hP hD hS hA rfl rfl rfl hl.1 rfl (Nat.le_of_ble_eq_true rfl) dX9_lay_18 ⟨Nat.le_of_ble_eq_true rfl, Nat.le_of_ble_eq_true rfl⟩ (fun u r H locs hw hP hD hS => ?_)
    obtain ⟨q_7, q_8, q_9, W_10⟩ := u
    obtain ⟨q_11, rfl⟩ : ∃ z, z = r := ⟨_, rfl⟩
    have hP : va_P D vwCl (CL cy (ext a q_7 q_8 q_9) (fun _ => 0) (va_up (fun _ => 0) 643 1) (va_up (va_up (fun _ => none) 100 (some (a 4))) 5 (some q_7)) (va_up (fun _ _ => 0) 21 W_10) RO ++ [(q_11, .inr (2, [.int x0, .long 0, .long 0]))]) H := hP
    have hD : va_D A (CL cy (ext a q_7 q_8 q_9) (fun _ => 0) (va_up (fun _ => 0) 643 1) (va_up (va_up (fun _ => none) 100 (some (a 4))) 5 (some q_7)) (va_up (fun _ _ => 0) 21 W_10) RO ++ [(q_11, .inr (2, [.int x0, .long 0, .long 0]))]) := hD
    refine va_put (D := D) (ci := 8) (v := .ref q_11) (ty := .object "ParquetLayer$Laying") (C := RX9) (T := TX9) (N := 11) hx hb hts hi9 tyX9 tyX9_ok nmX9 hown hK hP hD hS 0 rfl rfl 8 (by decide) hw0 (fun _ h9 => h9) rfl (by decide +kernel) rfl rfl (Nat.le_of_ble_eq_true rfl) dX9_lay_21 (fun H locs hP hD hS => ?_)
    have hP : va_P D vwCl (CL cy (ext a q_7 q_8 q_9) (fun _ => 0) (va_up (fun _ => 0) 643 1) (va_up (va_up (va_up (fun _ => none) 100 (some (a 4))) 5 (some q_7)) 8 (some q_11)) (va_up (fun _ _ => 0) 21 W_10) RO ++ [(q_11, .inr (2, [.int x0, .long 0, .long 0]))]) H := hP
    have hD : va_D A (CL cy (ext a q_7 q_8 q_9) (fun _ => 0) (va_up (fun _ => 0) 643 1) (va_up (va_up (va_up (fun _ => none) 100 (some (a 4))) 5 (some q_7)) 8 (some q_11)) (va_up (fun _ _ => 0) 21 W_10) RO ++ [(q_11, .inr (2, [.int x0, .long 0, .long 0]))]) := hD
    refine lv_iconst (v := 1) hx hb dX9_lay_24 (by decide) ?_
    exact qret_i hx hb hr hlocks (by simp_all [a_lay]) hS dX9_lay_25
  · replace c_6 := bI_f c_6
    refine lv_aload_n hx hb dX9_lay_8 rfl (lv_at hl 0 rfl) ?_
    refine lv_ldc (v := (-100001)) hx hb hown hw1 dX9_lay_9 ?_
    refine kM_i (As := [.int (-100001)]) (rest := []) (q0 := 0) ⟨hx, hb, hml, hown, hts⟩ (c_X9_findingL l D cy (ext a q_1 q_2 q_3) _ (fun _ => 0) (va_up (fun _ => 0) 643 1) (va_up (va_up (fun _ => none) 100 (some (a 4))) 5 (some q_1)) (va_up (fun _ _ => 0) 21 W_4) RO (-100001) ) (cwV 1 hts gX9_lay_X9_finding rfl rfl rfl (by decide +kernel) ⟨Nat.le_of_ble_eq_true rfl, Nat.le_of_ble_eq_true rfl⟩) hK hN hP hD hS hA rfl rfl rfl hl.1 rfl (Nat.le_of_ble_eq_true rfl) dX9_lay_11 ⟨Nat.le_of_ble_eq_true rfl, Nat.le_of_ble_eq_true rfl⟩ (fun r u H locs hw hP hD hS => ?_)
    obtain ⟨rfl, rfl⟩ := hw
    have hP : va_P D vwCl (CL cy (ext a q_1 q_2 q_3) (fun _ => 0) (va_up (va_up (fun _ => 0) 643 1) 10 (0 + 1)) (va_up (va_up (fun _ => none) 100 (some (a 4))) 5 (some q_1)) (va_up (fun _ _ => 0) 21 W_4) RO) H := hP
    have hD : va_D A (CL cy (ext a q_1 q_2 q_3) (fun _ => 0) (va_up (va_up (fun _ => 0) 643 1) 10 (0 + 1)) (va_up (va_up (fun _ => none) 100 (some (a 4))) 5 (some q_1)) (va_up (fun _ _ => 0) 21 W_4) RO) := hD
    refine W.widen (k := 4) (n := 17159) (Nat.le_of_ble_eq_true rfl) (Nat.le_of_ble_eq_true rfl) ?_
    exact qret_i hx hb hr hlocks (by simp_all [a_lay]) hS dX9_lay_14
theorem xp_X9_lay (l : Launch) (D : va_G) (cy : Nat → ClassId) (a : Nat → Nat) (sz : Nat) (RO : Nat → Nat → Option Nat) (x0 : Int32) : Met l yX9_lay wsX9_lay ({ frames := 6, cells := 4, slots := 17159, locals := 200 }) (va_Pc [.ref (a 0), .int x0] (PW D cy sz (CW cy a (fun _ => 0) (fun _ => 0) (va_up (fun _ => none) 100 (some (a 4))) (fun _ _ => 0) RO))) (va_Qi (fun r (_ : Unit) => r = a_lay x0) (fun _ _ => True) (va_A (CW cy a (fun _ => 0) (fun _ => 0) (va_up (fun _ => none) 100 (some (a 4))) (fun _ _ => 0) RO) sz)) 4 17159 (va_A (CW cy a (fun _ => 0) (fun _ => 0) (va_up (fun _ => none) 100 (some (a 4))) (fun _ _ => 0) RO) sz) := by
  by_cases h : x0 < 0
  · exact xp_lay_neg l D cy a sz RO x0 h
  · exact xp_lay_pos l D cy a sz RO x0 h
theorem dX6_isMissing_0 : decode cX6_isMissing 0 = .ok (.aload_n 0, 1) := by decide +kernel
theorem dX6_isMissing_1 : decode cX6_isMissing 1 = .ok (.getfield 13, 3) := by decide +kernel
theorem dX6_isMissing_4 : decode cX6_isMissing 4 = .ok (.ifCond .ne 7, 3) := by decide +kernel
theorem dX6_isMissing_7 : decode cX6_isMissing 7 = .ok (.iconst 1, 1) := by decide +kernel
theorem dX6_isMissing_8 : decode cX6_isMissing 8 = .ok (.goto 4, 3) := by decide +kernel
theorem dX6_isMissing_12 : decode cX6_isMissing 12 = .ok (.ireturn, 1) := by decide +kernel
set_option maxRecDepth 20000 in
theorem ihX6_isMissing_6 : ∀ w ∈ u_ws RX6 TX6 3, w ∈ wsX6_isMissing := by decide +kernel
set_option maxHeartbeats 4000000 in
set_option maxRecDepth 100000 in
theorem c_isMissing0 (l : Launch) (D : va_G) (cy : Nat → ClassId) (a : Nat → Nat) (sz : Nat) (RO : Nat → Nat → Option Nat)  : Met l yX6_isMissing wsX6_isMissing ({ frames := 0, cells := 0, slots := 0, locals := 0 }) (va_Pc [.ref (a 12)] (PW D cy sz (CW cy a (fun _ => 0) (fun _ => 0) (va_up (fun _ => none) 100 (some (a 4))) (fun _ _ => 0) RO))) (vp_Si (fun r => r = bI (true))) 0 0 (fun _ => False) := by
  refine Met.ofW (cc := cX6_isMissing) (maxL := 1) (ret := (some .boolean)) (by decide) rfl ?_
  intro p e s m args below meth c s₁ B hml hv
  obtain ⟨rfl, rfl, hP, hK, hN, hD0⟩ := hv
  have hx := B.exec
  have hb := B.bytes
  have hr := B.returns
  have hts := atoms_spec (ws := wsX6_isMissing) B.pre
  have hown : s.vm.findClass RX6 = some m.cls := findClass_of_methodNamed B.named
  have hlocks := B.notSynchronized
  have hw0 := hts (.fieldLink RX6 13 "ParquetLayer$Sheet" "bits" "I") (by decide +kernel)
  have hi6 := ihX6_isMissing_6
  have hD := hD0
  have hl := lv_entry ([.ref (a 12)]) (n := 1) (Nat.le_of_ble_eq_true rfl)
  rw [lg_entry_eq]
  generalize (lg_sl ([.ref (a 12)]) ++ List.replicate (1 - (lg_sl ([.ref (a 12)])).length) Slot.unset).toArray = ls at hl ⊢
  have hl : lv_has ls 1 [(0, .ref (a 12))] := hl
  refine lv_aload_n hx hb dX6_isMissing_0 rfl (lv_at hl 0 rfl) ?_
  refine va_get (D := D) (ci := 5) (v := .int 0) (C := RX6) (T := TX6) (N := 3) hx hb hts hi6 hown hK hP 12 rfl rfl 1 (by decide) hw0 (fun _ h9 => h9) rfl dX6_isMissing_1 ?_
  refine lv_if_ne (tgt := 11) hx hb dX6_isMissing_4 (by decide) (fun c_1 => absurd (by decide) c_1) (fun c_1 => ?_)
  refine lv_iconst (v := 1) hx hb dX6_isMissing_7 (by decide) ?_
  refine lv_goto (tgt := 12) hx hb dX6_isMissing_8 (by decide) ?_
  exact pret_z hx hb hr hlocks rfl dX6_isMissing_12
theorem dX6_begin_0 : decode cX6_begin 0 = .ok (.aload_n 0, 1) := by decide +kernel
theorem dX6_begin_1 : decode cX6_begin 1 = .ok (.iload_n 1, 1) := by decide +kernel
theorem dX6_begin_2 : decode cX6_begin 2 = .ok (.putfield 13, 3) := by decide +kernel
theorem dX6_begin_5 : decode cX6_begin 5 = .ok (.aload_n 0, 1) := by decide +kernel
theorem dX6_begin_6 : decode cX6_begin 6 = .ok (.iload_n 1, 1) := by decide +kernel
theorem dX6_begin_7 : decode cX6_begin 7 = .ok (.ifCond .ne 7, 3) := by decide +kernel
theorem dX6_begin_14 : decode cX6_begin 14 = .ok (.iload_n 2, 1) := by decide +kernel
theorem dX6_begin_15 : decode cX6_begin 15 = .ok (.putfield 17, 3) := by decide +kernel
theorem dX6_begin_18 : decode cX6_begin 18 = .ok (.aload_n 0, 1) := by decide +kernel
theorem dX6_begin_19 : decode cX6_begin 19 = .ok (.getfield 9, 3) := by decide +kernel
theorem dX6_begin_22 : decode cX6_begin 22 = .ok (.iconst 0, 1) := by decide +kernel
set_option maxRecDepth 20000 in
theorem ggX6_begin_J7_fill_53178 : GoodIn wsX6_begin wsJ7_fill_53178 := goodIn_r _ [7] (by decide +kernel) (by decide +kernel)
set_option maxRecDepth 20000 in
theorem gX6_begin_J7_fill_53178 : GoodIn wsX6_begin (va_wsS RX6 20 yJ7_fill_53178 wsJ7_fill_53178) := goodIn_app (goodIn_of _ (by decide +kernel)) ggX6_begin_J7_fill_53178
theorem dX6_begin_23 : decode cX6_begin 23 = .ok (.invokestatic 20, 3) := by decide +kernel
theorem dX6_begin_26 : decode cX6_begin 26 = .ok (.return_, 1) := by decide +kernel
theorem dX6_begin_10 : decode cX6_begin 10 = .ok (.iconst 0, 1) := by decide +kernel
theorem dX6_begin_11 : decode cX6_begin 11 = .ok (.goto 4, 3) := by decide +kernel
set_option maxRecDepth 20000 in
theorem ihX6_begin_6 : ∀ w ∈ u_ws RX6 TX6 3, w ∈ wsX6_begin := by decide +kernel
set_option maxHeartbeats 4000000 in
set_option maxRecDepth 100000 in
theorem hv_begin0 (l : Launch) (D : va_G) (cy : Nat → ClassId) (a : Nat → Nat) (sz : Nat) (RO : Nat → Nat → Option Nat) (x0 : Int32) (x1 : Int32) : Met l yX6_begin wsX6_begin ({ frames := 1, cells := 0, slots := 0, locals := 23 }) (va_Pc [.ref (a 12), .int x0, .int x1] (PW D cy sz (CW cy a (fun _ => 0) (fun _ => 0) (va_up (fun _ => none) 100 (some (a 4))) (fun _ _ => 0) RO))) (va_Qv (fun (u : CS) => u.2.2.2.2 = RO ∧ u.2.1 386 = if x0 = 0 then 0 else x1) (BW D (va_A (CW cy a (fun _ => 0) (fun _ => 0) (va_up (fun _ => none) 100 (some (a 4))) (fun _ _ => 0) RO) sz) (CWu cy a)) (va_A (CW cy a (fun _ => 0) (fun _ => 0) (va_up (fun _ => none) 100 (some (a 4))) (fun _ _ => 0) RO) sz)) 0 0 (va_A (CW cy a (fun _ => 0) (fun _ => 0) (va_up (fun _ => none) 100 (some (a 4))) (fun _ _ => 0) RO) sz) := by
  refine Met.ofW (cc := cX6_begin) (maxL := 3) (ret := none) (by decide) rfl ?_
  intro p e s m args below meth c s₁ B hml hv
  obtain ⟨rfl, rfl, hP, hK, hN, hD0⟩ := hv
  have hx := B.exec
  have hb := B.bytes
  have hr := B.returns
  have hts := atoms_spec (ws := wsX6_begin) B.pre
  have hown : s.vm.findClass RX6 = some m.cls := findClass_of_methodNamed B.named
  have hlocks := B.notSynchronized
  have hw0 := hts (.fieldLink RX6 13 "ParquetLayer$Sheet" "bits" "I") (by decide +kernel)
  have hw1 := hts (.fieldLink RX6 17 "ParquetLayer$Sheet" "size" "I") (by decide +kernel)
  have hw2 := hts (.fieldLink RX6 9 "ParquetLayer$Sheet" "numbers" "[I") (by decide +kernel)
  have hi6 := ihX6_begin_6
  have hD := hD0.self (sz := s.heap.size)
  generalize hAe : va_A (CW cy a (fun _ => 0) (fun _ => 0) (va_up (fun _ => none) 100 (some (a 4))) (fun _ _ => 0) RO) s.heap.size = A at hD ⊢
  have hA : ∀ q : Nat, s.heap.size ≤ q → A q := fun q h => by rw [← hAe]; exact Or.inr h
  have hS : va_S A s.heap s.heap [] := va_S.rf
  have hl := lv_entry ([.ref (a 12), .int x0, .int x1]) (n := 3) (Nat.le_of_ble_eq_true rfl)
  rw [lg_entry_eq]
  generalize (lg_sl ([.ref (a 12), .int x0, .int x1]) ++ List.replicate (3 - (lg_sl ([.ref (a 12), .int x0, .int x1])).length) Slot.unset).toArray = ls at hl ⊢
  have hl : lv_has ls 3 [(0, .ref (a 12)), (1, .int x0), (2, .int x1)] := hl
  refine lv_aload_n hx hb dX6_begin_0 rfl (lv_at hl 0 rfl) ?_
  refine lv_iload_n hx hb dX6_begin_1 rfl (lv_at hl 1 rfl) ?_
  refine va_put (D := D) (ci := 5) (v := .int x0) (ty := .int) (C := RX6) (T := TX6) (N := 3) hx hb hts hi6 tyX6 tyX6_ok nmX6 hown hK hP hD hS 12 rfl rfl 1 (by decide) hw0 (fun _ h9 => h9) rfl (by decide +kernel) rfl rfl (Nat.le_of_ble_eq_true rfl) dX6_begin_2 (fun H locs hP hD hS => ?_)
  have hP : va_P D vwCl (CW cy a (fun _ => 0) (va_up (fun _ => 0) 385 x0) (va_up (fun _ => none) 100 (some (a 4))) (fun _ _ => 0) RO) H := hP
  have hD : va_D A (CW cy a (fun _ => 0) (va_up (fun _ => 0) 385 x0) (va_up (fun _ => none) 100 (some (a 4))) (fun _ _ => 0) RO) := hD
  refine lv_aload_n hx hb dX6_begin_5 rfl (lv_at hl 0 rfl) ?_
  refine lv_iload_n hx hb dX6_begin_6 rfl (lv_at hl 1 rfl) ?_
  refine lv_if_ne (tgt := 14) hx hb dX6_begin_7 (by decide) (fun c_1 => ?_) (fun c_1 => ?_)
  · refine lv_iload_n hx hb dX6_begin_14 rfl (lv_at hl 2 rfl) ?_
    refine va_put (D := D) (ci := 5) (v := .int x1) (ty := .int) (C := RX6) (T := TX6) (N := 3) hx hb hts hi6 tyX6 tyX6_ok nmX6 hown hK hP hD hS 12 rfl rfl 2 (by decide) hw1 (fun _ h9 => h9) rfl (by decide +kernel) rfl rfl (Nat.le_of_ble_eq_true rfl) dX6_begin_15 (fun H locs hP hD hS => ?_)
    have hP : va_P D vwCl (CW cy a (fun _ => 0) (va_up (va_up (fun _ => 0) 385 x0) 386 x1) (va_up (fun _ => none) 100 (some (a 4))) (fun _ _ => 0) RO) H := hP
    have hD : va_D A (CW cy a (fun _ => 0) (va_up (va_up (fun _ => 0) 385 x0) 386 x1) (va_up (fun _ => none) 100 (some (a 4))) (fun _ _ => 0) RO) := hD
    refine lv_aload_n hx hb dX6_begin_18 rfl (lv_at hl 0 rfl) ?_
    refine va_get (D := D) (ci := 5) (v := .ref (a 13)) (C := RX6) (T := TX6) (N := 3) hx hb hts hi6 hown hK hP 12 rfl rfl 0 (by decide) hw2 (fun _ h9 => h9) rfl dX6_begin_19 ?_
    refine lv_iconst (v := 0) hx hb dX6_begin_22 (by decide) ?_
    refine kO_v (As := [.ref (a 13), .int 0]) (rest := []) (q0 := 13) ⟨hx, hb, hml, hown, hts⟩ (c_fill16 l D cy (a 13) _ (fun _ => 0) 0 ) (va_cwS 2 hts gX6_begin_J7_fill_53178 rfl rfl rfl (by decide +kernel) ⟨Nat.le_of_ble_eq_true rfl, Nat.le_of_ble_eq_true rfl⟩) hK hN hP hD hS hA rfl rfl hl.1 rfl (Nat.le_of_ble_eq_true rfl) dX6_begin_23 ⟨Nat.le_of_ble_eq_true rfl, Nat.le_of_ble_eq_true rfl⟩ (fun u H locs hw hP hD hS => ?_)
    obtain ⟨F_2, rfl⟩ : ∃ z, z = u := ⟨_, rfl⟩
    have hP : va_P D vwCl (CW cy a (fun _ => 0) (va_up (va_up (fun _ => 0) 385 x0) 386 x1) (va_up (fun _ => none) 100 (some (a 4))) (va_up (fun _ _ => 0) 13 F_2) RO) H := hP
    have hD : va_D A (CW cy a (fun _ => 0) (va_up (va_up (fun _ => 0) 385 x0) 386 x1) (va_up (fun _ => none) 100 (some (a 4))) (va_up (fun _ _ => 0) 13 F_2) RO) := hD
    exact wret_v hx hb hr hlocks ((fun _ => 0), (va_up (va_up (fun _ => 0) 385 x0) 386 x1), (va_up (fun _ => none) 100 (some (a 4))), (va_up (fun _ _ => 0) 13 F_2), RO) ⟨rfl, (by simp [va_up, c_1])⟩ hP hD hS dX6_begin_26
  · refine lv_iconst (v := 0) hx hb dX6_begin_10 (by decide) ?_
    refine lv_goto (tgt := 15) hx hb dX6_begin_11 (by decide) ?_
    refine va_put (D := D) (ci := 5) (v := .int 0) (ty := .int) (C := RX6) (T := TX6) (N := 3) hx hb hts hi6 tyX6 tyX6_ok nmX6 hown hK hP hD hS 12 rfl rfl 2 (by decide) hw1 (fun _ h9 => h9) rfl (by decide +kernel) rfl rfl (Nat.le_of_ble_eq_true rfl) dX6_begin_15 (fun H locs hP hD hS => ?_)
    have hP : va_P D vwCl (CW cy a (fun _ => 0) (va_up (fun _ => 0) 385 x0) (va_up (fun _ => none) 100 (some (a 4))) (fun _ _ => 0) RO) H := hP
    have hD : va_D A (CW cy a (fun _ => 0) (va_up (fun _ => 0) 385 x0) (va_up (fun _ => none) 100 (some (a 4))) (fun _ _ => 0) RO) := hD
    refine lv_aload_n hx hb dX6_begin_18 rfl (lv_at hl 0 rfl) ?_
    refine va_get (D := D) (ci := 5) (v := .ref (a 13)) (C := RX6) (T := TX6) (N := 3) hx hb hts hi6 hown hK hP 12 rfl rfl 0 (by decide) hw2 (fun _ h9 => h9) rfl dX6_begin_19 ?_
    refine lv_iconst (v := 0) hx hb dX6_begin_22 (by decide) ?_
    refine kO_v (As := [.ref (a 13), .int 0]) (rest := []) (q0 := 13) ⟨hx, hb, hml, hown, hts⟩ (c_fill16 l D cy (a 13) _ (fun _ => 0) 0 ) (va_cwS 2 hts gX6_begin_J7_fill_53178 rfl rfl rfl (by decide +kernel) ⟨Nat.le_of_ble_eq_true rfl, Nat.le_of_ble_eq_true rfl⟩) hK hN hP hD hS hA rfl rfl hl.1 rfl (Nat.le_of_ble_eq_true rfl) dX6_begin_23 ⟨Nat.le_of_ble_eq_true rfl, Nat.le_of_ble_eq_true rfl⟩ (fun u H locs hw hP hD hS => ?_)
    obtain ⟨F_3, rfl⟩ : ∃ z, z = u := ⟨_, rfl⟩
    have hP : va_P D vwCl (CW cy a (fun _ => 0) (va_up (fun _ => 0) 385 x0) (va_up (fun _ => none) 100 (some (a 4))) (va_up (fun _ _ => 0) 13 F_3) RO) H := hP
    have hD : va_D A (CW cy a (fun _ => 0) (va_up (fun _ => 0) 385 x0) (va_up (fun _ => none) 100 (some (a 4))) (va_up (fun _ _ => 0) 13 F_3) RO) := hD
    exact wret_v hx hb hr hlocks ((fun _ => 0), (va_up (fun _ => 0) 385 x0), (va_up (fun _ => none) 100 (some (a 4))), (va_up (fun _ _ => 0) 13 F_3), RO) ⟨rfl, (by simp [va_up, c_1])⟩ hP hD hS dX6_begin_26
set_option maxHeartbeats 4000000 in
set_option maxRecDepth 100000 in
theorem c_isMissing1 (l : Launch) (D : va_G) (cy : Nat → ClassId) (a : Nat → Nat) (sz : Nat) (RO : Nat → Nat → Option Nat)  : Met l yX6_isMissing wsX6_isMissing ({ frames := 0, cells := 0, slots := 0, locals := 0 }) (va_Pc [.ref (a 14)] (PW D cy sz (CW cy a (fun _ => 0) (fun _ => 0) (va_up (fun _ => none) 100 (some (a 4))) (fun _ _ => 0) RO))) (vp_Si (fun r => r = bI (true))) 0 0 (fun _ => False) := by
  refine Met.ofW (cc := cX6_isMissing) (maxL := 1) (ret := (some .boolean)) (by decide) rfl ?_
  intro p e s m args below meth c s₁ B hml hv
  obtain ⟨rfl, rfl, hP, hK, hN, hD0⟩ := hv
  have hx := B.exec
  have hb := B.bytes
  have hr := B.returns
  have hts := atoms_spec (ws := wsX6_isMissing) B.pre
  have hown : s.vm.findClass RX6 = some m.cls := findClass_of_methodNamed B.named
  have hlocks := B.notSynchronized
  have hw0 := hts (.fieldLink RX6 13 "ParquetLayer$Sheet" "bits" "I") (by decide +kernel)
  have hi6 := ihX6_isMissing_6
  have hD := hD0
  have hl := lv_entry ([.ref (a 14)]) (n := 1) (Nat.le_of_ble_eq_true rfl)
  rw [lg_entry_eq]
  generalize (lg_sl ([.ref (a 14)]) ++ List.replicate (1 - (lg_sl ([.ref (a 14)])).length) Slot.unset).toArray = ls at hl ⊢
  have hl : lv_has ls 1 [(0, .ref (a 14))] := hl
  refine lv_aload_n hx hb dX6_isMissing_0 rfl (lv_at hl 0 rfl) ?_
  refine va_get (D := D) (ci := 5) (v := .int 0) (C := RX6) (T := TX6) (N := 3) hx hb hts hi6 hown hK hP 14 rfl rfl 1 (by decide) hw0 (fun _ h9 => h9) rfl dX6_isMissing_1 ?_
  refine lv_if_ne (tgt := 11) hx hb dX6_isMissing_4 (by decide) (fun c_1 => absurd (by decide) c_1) (fun c_1 => ?_)
  refine lv_iconst (v := 1) hx hb dX6_isMissing_7 (by decide) ?_
  refine lv_goto (tgt := 12) hx hb dX6_isMissing_8 (by decide) ?_
  exact pret_z hx hb hr hlocks rfl dX6_isMissing_12
set_option maxHeartbeats 4000000 in
set_option maxRecDepth 100000 in
theorem hv_begin1 (l : Launch) (D : va_G) (cy : Nat → ClassId) (a : Nat → Nat) (sz : Nat) (RO : Nat → Nat → Option Nat) (x0 : Int32) (x1 : Int32) : Met l yX6_begin wsX6_begin ({ frames := 1, cells := 0, slots := 0, locals := 23 }) (va_Pc [.ref (a 14), .int x0, .int x1] (PW D cy sz (CW cy a (fun _ => 0) (fun _ => 0) (va_up (fun _ => none) 100 (some (a 4))) (fun _ _ => 0) RO))) (va_Qv (fun (u : CS) => u.2.2.2.2 = RO ∧ u.2.1 450 = if x0 = 0 then 0 else x1) (BW D (va_A (CW cy a (fun _ => 0) (fun _ => 0) (va_up (fun _ => none) 100 (some (a 4))) (fun _ _ => 0) RO) sz) (CWu cy a)) (va_A (CW cy a (fun _ => 0) (fun _ => 0) (va_up (fun _ => none) 100 (some (a 4))) (fun _ _ => 0) RO) sz)) 0 0 (va_A (CW cy a (fun _ => 0) (fun _ => 0) (va_up (fun _ => none) 100 (some (a 4))) (fun _ _ => 0) RO) sz) := by
  refine Met.ofW (cc := cX6_begin) (maxL := 3) (ret := none) (by decide) rfl ?_
  intro p e s m args below meth c s₁ B hml hv
  obtain ⟨rfl, rfl, hP, hK, hN, hD0⟩ := hv
  have hx := B.exec
  have hb := B.bytes
  have hr := B.returns
  have hts := atoms_spec (ws := wsX6_begin) B.pre
  have hown : s.vm.findClass RX6 = some m.cls := findClass_of_methodNamed B.named
  have hlocks := B.notSynchronized
  have hw0 := hts (.fieldLink RX6 13 "ParquetLayer$Sheet" "bits" "I") (by decide +kernel)
  have hw1 := hts (.fieldLink RX6 17 "ParquetLayer$Sheet" "size" "I") (by decide +kernel)
  have hw2 := hts (.fieldLink RX6 9 "ParquetLayer$Sheet" "numbers" "[I") (by decide +kernel)
  have hi6 := ihX6_begin_6
  have hD := hD0.self (sz := s.heap.size)
  generalize hAe : va_A (CW cy a (fun _ => 0) (fun _ => 0) (va_up (fun _ => none) 100 (some (a 4))) (fun _ _ => 0) RO) s.heap.size = A at hD ⊢
  have hA : ∀ q : Nat, s.heap.size ≤ q → A q := fun q h => by rw [← hAe]; exact Or.inr h
  have hS : va_S A s.heap s.heap [] := va_S.rf
  have hl := lv_entry ([.ref (a 14), .int x0, .int x1]) (n := 3) (Nat.le_of_ble_eq_true rfl)
  rw [lg_entry_eq]
  generalize (lg_sl ([.ref (a 14), .int x0, .int x1]) ++ List.replicate (3 - (lg_sl ([.ref (a 14), .int x0, .int x1])).length) Slot.unset).toArray = ls at hl ⊢
  have hl : lv_has ls 3 [(0, .ref (a 14)), (1, .int x0), (2, .int x1)] := hl
  refine lv_aload_n hx hb dX6_begin_0 rfl (lv_at hl 0 rfl) ?_
  refine lv_iload_n hx hb dX6_begin_1 rfl (lv_at hl 1 rfl) ?_
  refine va_put (D := D) (ci := 5) (v := .int x0) (ty := .int) (C := RX6) (T := TX6) (N := 3) hx hb hts hi6 tyX6 tyX6_ok nmX6 hown hK hP hD hS 14 rfl rfl 1 (by decide) hw0 (fun _ h9 => h9) rfl (by decide +kernel) rfl rfl (Nat.le_of_ble_eq_true rfl) dX6_begin_2 (fun H locs hP hD hS => ?_)
  have hP : va_P D vwCl (CW cy a (fun _ => 0) (va_up (fun _ => 0) 449 x0) (va_up (fun _ => none) 100 (some (a 4))) (fun _ _ => 0) RO) H := hP
  have hD : va_D A (CW cy a (fun _ => 0) (va_up (fun _ => 0) 449 x0) (va_up (fun _ => none) 100 (some (a 4))) (fun _ _ => 0) RO) := hD
  refine lv_aload_n hx hb dX6_begin_5 rfl (lv_at hl 0 rfl) ?_
  refine lv_iload_n hx hb dX6_begin_6 rfl (lv_at hl 1 rfl) ?_
  refine lv_if_ne (tgt := 14) hx hb dX6_begin_7 (by decide) (fun c_1 => ?_) (fun c_1 => ?_)
  · refine lv_iload_n hx hb dX6_begin_14 rfl (lv_at hl 2 rfl) ?_
    refine va_put (D := D) (ci := 5) (v := .int x1) (ty := .int) (C := RX6) (T := TX6) (N := 3) hx hb hts hi6 tyX6 tyX6_ok nmX6 hown hK hP hD hS 14 rfl rfl 2 (by decide) hw1 (fun _ h9 => h9) rfl (by decide +kernel) rfl rfl (Nat.le_of_ble_eq_true rfl) dX6_begin_15 (fun H locs hP hD hS => ?_)
    have hP : va_P D vwCl (CW cy a (fun _ => 0) (va_up (va_up (fun _ => 0) 449 x0) 450 x1) (va_up (fun _ => none) 100 (some (a 4))) (fun _ _ => 0) RO) H := hP
    have hD : va_D A (CW cy a (fun _ => 0) (va_up (va_up (fun _ => 0) 449 x0) 450 x1) (va_up (fun _ => none) 100 (some (a 4))) (fun _ _ => 0) RO) := hD
    refine lv_aload_n hx hb dX6_begin_18 rfl (lv_at hl 0 rfl) ?_
    refine va_get (D := D) (ci := 5) (v := .ref (a 15)) (C := RX6) (T := TX6) (N := 3) hx hb hts hi6 hown hK hP 14 rfl rfl 0 (by decide) hw2 (fun _ h9 => h9) rfl dX6_begin_19 ?_
    refine lv_iconst (v := 0) hx hb dX6_begin_22 (by decide) ?_
    refine kO_v (As := [.ref (a 15), .int 0]) (rest := []) (q0 := 15) ⟨hx, hb, hml, hown, hts⟩ (c_fill16 l D cy (a 15) _ (fun _ => 0) 0 ) (va_cwS 2 hts gX6_begin_J7_fill_53178 rfl rfl rfl (by decide +kernel) ⟨Nat.le_of_ble_eq_true rfl, Nat.le_of_ble_eq_true rfl⟩) hK hN hP hD hS hA rfl rfl hl.1 rfl (Nat.le_of_ble_eq_true rfl) dX6_begin_23 ⟨Nat.le_of_ble_eq_true rfl, Nat.le_of_ble_eq_true rfl⟩ (fun u H locs hw hP hD hS => ?_)
    obtain ⟨F_2, rfl⟩ : ∃ z, z = u := ⟨_, rfl⟩
    have hP : va_P D vwCl (CW cy a (fun _ => 0) (va_up (va_up (fun _ => 0) 449 x0) 450 x1) (va_up (fun _ => none) 100 (some (a 4))) (va_up (fun _ _ => 0) 15 F_2) RO) H := hP
    have hD : va_D A (CW cy a (fun _ => 0) (va_up (va_up (fun _ => 0) 449 x0) 450 x1) (va_up (fun _ => none) 100 (some (a 4))) (va_up (fun _ _ => 0) 15 F_2) RO) := hD
    exact wret_v hx hb hr hlocks ((fun _ => 0), (va_up (va_up (fun _ => 0) 449 x0) 450 x1), (va_up (fun _ => none) 100 (some (a 4))), (va_up (fun _ _ => 0) 15 F_2), RO) ⟨rfl, (by simp [va_up, c_1])⟩ hP hD hS dX6_begin_26
  · refine lv_iconst (v := 0) hx hb dX6_begin_10 (by decide) ?_
    refine lv_goto (tgt := 15) hx hb dX6_begin_11 (by decide) ?_
    refine va_put (D := D) (ci := 5) (v := .int 0) (ty := .int) (C := RX6) (T := TX6) (N := 3) hx hb hts hi6 tyX6 tyX6_ok nmX6 hown hK hP hD hS 14 rfl rfl 2 (by decide) hw1 (fun _ h9 => h9) rfl (by decide +kernel) rfl rfl (Nat.le_of_ble_eq_true rfl) dX6_begin_15 (fun H locs hP hD hS => ?_)
    have hP : va_P D vwCl (CW cy a (fun _ => 0) (va_up (fun _ => 0) 449 x0) (va_up (fun _ => none) 100 (some (a 4))) (fun _ _ => 0) RO) H := hP
    have hD : va_D A (CW cy a (fun _ => 0) (va_up (fun _ => 0) 449 x0) (va_up (fun _ => none) 100 (some (a 4))) (fun _ _ => 0) RO) := hD
    refine lv_aload_n hx hb dX6_begin_18 rfl (lv_at hl 0 rfl) ?_
    refine va_get (D := D) (ci := 5) (v := .ref (a 15)) (C := RX6) (T := TX6) (N := 3) hx hb hts hi6 hown hK hP 14 rfl rfl 0 (by decide) hw2 (fun _ h9 => h9) rfl dX6_begin_19 ?_
    refine lv_iconst (v := 0) hx hb dX6_begin_22 (by decide) ?_
    refine kO_v (As := [.ref (a 15), .int 0]) (rest := []) (q0 := 15) ⟨hx, hb, hml, hown, hts⟩ (c_fill16 l D cy (a 15) _ (fun _ => 0) 0 ) (va_cwS 2 hts gX6_begin_J7_fill_53178 rfl rfl rfl (by decide +kernel) ⟨Nat.le_of_ble_eq_true rfl, Nat.le_of_ble_eq_true rfl⟩) hK hN hP hD hS hA rfl rfl hl.1 rfl (Nat.le_of_ble_eq_true rfl) dX6_begin_23 ⟨Nat.le_of_ble_eq_true rfl, Nat.le_of_ble_eq_true rfl⟩ (fun u H locs hw hP hD hS => ?_)
    obtain ⟨F_3, rfl⟩ : ∃ z, z = u := ⟨_, rfl⟩
    have hP : va_P D vwCl (CW cy a (fun _ => 0) (va_up (fun _ => 0) 449 x0) (va_up (fun _ => none) 100 (some (a 4))) (va_up (fun _ _ => 0) 15 F_3) RO) H := hP
    have hD : va_D A (CW cy a (fun _ => 0) (va_up (fun _ => 0) 449 x0) (va_up (fun _ => none) 100 (some (a 4))) (va_up (fun _ _ => 0) 15 F_3) RO) := hD
    exact wret_v hx hb hr hlocks ((fun _ => 0), (va_up (fun _ => 0) 449 x0), (va_up (fun _ => none) 100 (some (a 4))), (va_up (fun _ _ => 0) 15 F_3), RO) ⟨rfl, (by simp [va_up, c_1])⟩ hP hD hS dX6_begin_26
set_option maxHeartbeats 4000000 in
set_option maxRecDepth 100000 in
theorem c_isMissing2 (l : Launch) (D : va_G) (cy : Nat → ClassId) (a : Nat → Nat) (sz : Nat) (RO : Nat → Nat → Option Nat)  : Met l yX6_isMissing wsX6_isMissing ({ frames := 0, cells := 0, slots := 0, locals := 0 }) (va_Pc [.ref (a 16)] (PW D cy sz (CW cy a (fun _ => 0) (fun _ => 0) (va_up (fun _ => none) 100 (some (a 4))) (fun _ _ => 0) RO))) (vp_Si (fun r => r = bI (true))) 0 0 (fun _ => False) := by
  refine Met.ofW (cc := cX6_isMissing) (maxL := 1) (ret := (some .boolean)) (by decide) rfl ?_
  intro p e s m args below meth c s₁ B hml hv
  obtain ⟨rfl, rfl, hP, hK, hN, hD0⟩ := hv
  have hx := B.exec
  have hb := B.bytes
  have hr := B.returns
  have hts := atoms_spec (ws := wsX6_isMissing) B.pre
  have hown : s.vm.findClass RX6 = some m.cls := findClass_of_methodNamed B.named
  have hlocks := B.notSynchronized
  have hw0 := hts (.fieldLink RX6 13 "ParquetLayer$Sheet" "bits" "I") (by decide +kernel)
  have hi6 := ihX6_isMissing_6
  have hD := hD0
  have hl := lv_entry ([.ref (a 16)]) (n := 1) (Nat.le_of_ble_eq_true rfl)
  rw [lg_entry_eq]
  generalize (lg_sl ([.ref (a 16)]) ++ List.replicate (1 - (lg_sl ([.ref (a 16)])).length) Slot.unset).toArray = ls at hl ⊢
  have hl : lv_has ls 1 [(0, .ref (a 16))] := hl
  refine lv_aload_n hx hb dX6_isMissing_0 rfl (lv_at hl 0 rfl) ?_
  refine va_get (D := D) (ci := 5) (v := .int 0) (C := RX6) (T := TX6) (N := 3) hx hb hts hi6 hown hK hP 16 rfl rfl 1 (by decide) hw0 (fun _ h9 => h9) rfl dX6_isMissing_1 ?_
  refine lv_if_ne (tgt := 11) hx hb dX6_isMissing_4 (by decide) (fun c_1 => absurd (by decide) c_1) (fun c_1 => ?_)
  refine lv_iconst (v := 1) hx hb dX6_isMissing_7 (by decide) ?_
  refine lv_goto (tgt := 12) hx hb dX6_isMissing_8 (by decide) ?_
  exact pret_z hx hb hr hlocks rfl dX6_isMissing_12
set_option maxHeartbeats 4000000 in
set_option maxRecDepth 100000 in
theorem hv_begin2 (l : Launch) (D : va_G) (cy : Nat → ClassId) (a : Nat → Nat) (sz : Nat) (RO : Nat → Nat → Option Nat) (x0 : Int32) (x1 : Int32) : Met l yX6_begin wsX6_begin ({ frames := 1, cells := 0, slots := 0, locals := 23 }) (va_Pc [.ref (a 16), .int x0, .int x1] (PW D cy sz (CW cy a (fun _ => 0) (fun _ => 0) (va_up (fun _ => none) 100 (some (a 4))) (fun _ _ => 0) RO))) (va_Qv (fun (u : CS) => u.2.2.2.2 = RO ∧ u.2.1 514 = if x0 = 0 then 0 else x1) (BW D (va_A (CW cy a (fun _ => 0) (fun _ => 0) (va_up (fun _ => none) 100 (some (a 4))) (fun _ _ => 0) RO) sz) (CWu cy a)) (va_A (CW cy a (fun _ => 0) (fun _ => 0) (va_up (fun _ => none) 100 (some (a 4))) (fun _ _ => 0) RO) sz)) 0 0 (va_A (CW cy a (fun _ => 0) (fun _ => 0) (va_up (fun _ => none) 100 (some (a 4))) (fun _ _ => 0) RO) sz) := by
  refine Met.ofW (cc := cX6_begin) (maxL := 3) (ret := none) (by decide) rfl ?_
  intro p e s m args below meth c s₁ B hml hv
  obtain ⟨rfl, rfl, hP, hK, hN, hD0⟩ := hv
  have hx := B.exec
  have hb := B.bytes
  have hr := B.returns
  have hts := atoms_spec (ws := wsX6_begin) B.pre
  have hown : s.vm.findClass RX6 = some m.cls := findClass_of_methodNamed B.named
  have hlocks := B.notSynchronized
  have hw0 := hts (.fieldLink RX6 13 "ParquetLayer$Sheet" "bits" "I") (by decide +kernel)
  have hw1 := hts (.fieldLink RX6 17 "ParquetLayer$Sheet" "size" "I") (by decide +kernel)
  have hw2 := hts (.fieldLink RX6 9 "ParquetLayer$Sheet" "numbers" "[I") (by decide +kernel)
  have hi6 := ihX6_begin_6
  have hD := hD0.self (sz := s.heap.size)
  generalize hAe : va_A (CW cy a (fun _ => 0) (fun _ => 0) (va_up (fun _ => none) 100 (some (a 4))) (fun _ _ => 0) RO) s.heap.size = A at hD ⊢
  have hA : ∀ q : Nat, s.heap.size ≤ q → A q := fun q h => by rw [← hAe]; exact Or.inr h
  have hS : va_S A s.heap s.heap [] := va_S.rf
  have hl := lv_entry ([.ref (a 16), .int x0, .int x1]) (n := 3) (Nat.le_of_ble_eq_true rfl)
  rw [lg_entry_eq]
  generalize (lg_sl ([.ref (a 16), .int x0, .int x1]) ++ List.replicate (3 - (lg_sl ([.ref (a 16), .int x0, .int x1])).length) Slot.unset).toArray = ls at hl ⊢
  have hl : lv_has ls 3 [(0, .ref (a 16)), (1, .int x0), (2, .int x1)] := hl
  refine lv_aload_n hx hb dX6_begin_0 rfl (lv_at hl 0 rfl) ?_
  refine lv_iload_n hx hb dX6_begin_1 rfl (lv_at hl 1 rfl) ?_
  refine va_put (D := D) (ci := 5) (v := .int x0) (ty := .int) (C := RX6) (T := TX6) (N := 3) hx hb hts hi6 tyX6 tyX6_ok nmX6 hown hK hP hD hS 16 rfl rfl 1 (by decide) hw0 (fun _ h9 => h9) rfl (by decide +kernel) rfl rfl (Nat.le_of_ble_eq_true rfl) dX6_begin_2 (fun H locs hP hD hS => ?_)
  have hP : va_P D vwCl (CW cy a (fun _ => 0) (va_up (fun _ => 0) 513 x0) (va_up (fun _ => none) 100 (some (a 4))) (fun _ _ => 0) RO) H := hP
  have hD : va_D A (CW cy a (fun _ => 0) (va_up (fun _ => 0) 513 x0) (va_up (fun _ => none) 100 (some (a 4))) (fun _ _ => 0) RO) := hD
  refine lv_aload_n hx hb dX6_begin_5 rfl (lv_at hl 0 rfl) ?_
  refine lv_iload_n hx hb dX6_begin_6 rfl (lv_at hl 1 rfl) ?_
  refine lv_if_ne (tgt := 14) hx hb dX6_begin_7 (by decide) (fun c_1 => ?_) (fun c_1 => ?_)
  · refine lv_iload_n hx hb dX6_begin_14 rfl (lv_at hl 2 rfl) ?_
    refine va_put (D := D) (ci := 5) (v := .int x1) (ty := .int) (C := RX6) (T := TX6) (N := 3) hx hb hts hi6 tyX6 tyX6_ok nmX6 hown hK hP hD hS 16 rfl rfl 2 (by decide) hw1 (fun _ h9 => h9) rfl (by decide +kernel) rfl rfl (Nat.le_of_ble_eq_true rfl) dX6_begin_15 (fun H locs hP hD hS => ?_)
    have hP : va_P D vwCl (CW cy a (fun _ => 0) (va_up (va_up (fun _ => 0) 513 x0) 514 x1) (va_up (fun _ => none) 100 (some (a 4))) (fun _ _ => 0) RO) H := hP
    have hD : va_D A (CW cy a (fun _ => 0) (va_up (va_up (fun _ => 0) 513 x0) 514 x1) (va_up (fun _ => none) 100 (some (a 4))) (fun _ _ => 0) RO) := hD
    refine lv_aload_n hx hb dX6_begin_18 rfl (lv_at hl 0 rfl) ?_
    refine va_get (D := D) (ci := 5) (v := .ref (a 17)) (C := RX6) (T := TX6) (N := 3) hx hb hts hi6 hown hK hP 16 rfl rfl 0 (by decide) hw2 (fun _ h9 => h9) rfl dX6_begin_19 ?_
    refine lv_iconst (v := 0) hx hb dX6_begin_22 (by decide) ?_
    refine kO_v (As := [.ref (a 17), .int 0]) (rest := []) (q0 := 17) ⟨hx, hb, hml, hown, hts⟩ (c_fill16 l D cy (a 17) _ (fun _ => 0) 0 ) (va_cwS 2 hts gX6_begin_J7_fill_53178 rfl rfl rfl (by decide +kernel) ⟨Nat.le_of_ble_eq_true rfl, Nat.le_of_ble_eq_true rfl⟩) hK hN hP hD hS hA rfl rfl hl.1 rfl (Nat.le_of_ble_eq_true rfl) dX6_begin_23 ⟨Nat.le_of_ble_eq_true rfl, Nat.le_of_ble_eq_true rfl⟩ (fun u H locs hw hP hD hS => ?_)
    obtain ⟨F_2, rfl⟩ : ∃ z, z = u := ⟨_, rfl⟩
    have hP : va_P D vwCl (CW cy a (fun _ => 0) (va_up (va_up (fun _ => 0) 513 x0) 514 x1) (va_up (fun _ => none) 100 (some (a 4))) (va_up (fun _ _ => 0) 17 F_2) RO) H := hP
    have hD : va_D A (CW cy a (fun _ => 0) (va_up (va_up (fun _ => 0) 513 x0) 514 x1) (va_up (fun _ => none) 100 (some (a 4))) (va_up (fun _ _ => 0) 17 F_2) RO) := hD
    exact wret_v hx hb hr hlocks ((fun _ => 0), (va_up (va_up (fun _ => 0) 513 x0) 514 x1), (va_up (fun _ => none) 100 (some (a 4))), (va_up (fun _ _ => 0) 17 F_2), RO) ⟨rfl, (by simp [va_up, c_1])⟩ hP hD hS dX6_begin_26
  · refine lv_iconst (v := 0) hx hb dX6_begin_10 (by decide) ?_
    refine lv_goto (tgt := 15) hx hb dX6_begin_11 (by decide) ?_
    refine va_put (D := D) (ci := 5) (v := .int 0) (ty := .int) (C := RX6) (T := TX6) (N := 3) hx hb hts hi6 tyX6 tyX6_ok nmX6 hown hK hP hD hS 16 rfl rfl 2 (by decide) hw1 (fun _ h9 => h9) rfl (by decide +kernel) rfl rfl (Nat.le_of_ble_eq_true rfl) dX6_begin_15 (fun H locs hP hD hS => ?_)
    have hP : va_P D vwCl (CW cy a (fun _ => 0) (va_up (fun _ => 0) 513 x0) (va_up (fun _ => none) 100 (some (a 4))) (fun _ _ => 0) RO) H := hP
    have hD : va_D A (CW cy a (fun _ => 0) (va_up (fun _ => 0) 513 x0) (va_up (fun _ => none) 100 (some (a 4))) (fun _ _ => 0) RO) := hD
    refine lv_aload_n hx hb dX6_begin_18 rfl (lv_at hl 0 rfl) ?_
    refine va_get (D := D) (ci := 5) (v := .ref (a 17)) (C := RX6) (T := TX6) (N := 3) hx hb hts hi6 hown hK hP 16 rfl rfl 0 (by decide) hw2 (fun _ h9 => h9) rfl dX6_begin_19 ?_
    refine lv_iconst (v := 0) hx hb dX6_begin_22 (by decide) ?_
    refine kO_v (As := [.ref (a 17), .int 0]) (rest := []) (q0 := 17) ⟨hx, hb, hml, hown, hts⟩ (c_fill16 l D cy (a 17) _ (fun _ => 0) 0 ) (va_cwS 2 hts gX6_begin_J7_fill_53178 rfl rfl rfl (by decide +kernel) ⟨Nat.le_of_ble_eq_true rfl, Nat.le_of_ble_eq_true rfl⟩) hK hN hP hD hS hA rfl rfl hl.1 rfl (Nat.le_of_ble_eq_true rfl) dX6_begin_23 ⟨Nat.le_of_ble_eq_true rfl, Nat.le_of_ble_eq_true rfl⟩ (fun u H locs hw hP hD hS => ?_)
    obtain ⟨F_3, rfl⟩ : ∃ z, z = u := ⟨_, rfl⟩
    have hP : va_P D vwCl (CW cy a (fun _ => 0) (va_up (fun _ => 0) 513 x0) (va_up (fun _ => none) 100 (some (a 4))) (va_up (fun _ _ => 0) 17 F_3) RO) H := hP
    have hD : va_D A (CW cy a (fun _ => 0) (va_up (fun _ => 0) 513 x0) (va_up (fun _ => none) 100 (some (a 4))) (va_up (fun _ _ => 0) 17 F_3) RO) := hD
    exact wret_v hx hb hr hlocks ((fun _ => 0), (va_up (fun _ => 0) 513 x0), (va_up (fun _ => none) 100 (some (a 4))), (va_up (fun _ _ => 0) 17 F_3), RO) ⟨rfl, (by simp [va_up, c_1])⟩ hP hD hS dX6_begin_26
set_option maxHeartbeats 4000000 in
set_option maxRecDepth 100000 in
theorem c_isMissing3 (l : Launch) (D : va_G) (cy : Nat → ClassId) (a : Nat → Nat) (sz : Nat) (RO : Nat → Nat → Option Nat)  : Met l yX6_isMissing wsX6_isMissing ({ frames := 0, cells := 0, slots := 0, locals := 0 }) (va_Pc [.ref (a 18)] (PW D cy sz (CW cy a (fun _ => 0) (fun _ => 0) (va_up (fun _ => none) 100 (some (a 4))) (fun _ _ => 0) RO))) (vp_Si (fun r => r = bI (true))) 0 0 (fun _ => False) := by
  refine Met.ofW (cc := cX6_isMissing) (maxL := 1) (ret := (some .boolean)) (by decide) rfl ?_
  intro p e s m args below meth c s₁ B hml hv
  obtain ⟨rfl, rfl, hP, hK, hN, hD0⟩ := hv
  have hx := B.exec
  have hb := B.bytes
  have hr := B.returns
  have hts := atoms_spec (ws := wsX6_isMissing) B.pre
  have hown : s.vm.findClass RX6 = some m.cls := findClass_of_methodNamed B.named
  have hlocks := B.notSynchronized
  have hw0 := hts (.fieldLink RX6 13 "ParquetLayer$Sheet" "bits" "I") (by decide +kernel)
  have hi6 := ihX6_isMissing_6
  have hD := hD0
  have hl := lv_entry ([.ref (a 18)]) (n := 1) (Nat.le_of_ble_eq_true rfl)
  rw [lg_entry_eq]
  generalize (lg_sl ([.ref (a 18)]) ++ List.replicate (1 - (lg_sl ([.ref (a 18)])).length) Slot.unset).toArray = ls at hl ⊢
  have hl : lv_has ls 1 [(0, .ref (a 18))] := hl
  refine lv_aload_n hx hb dX6_isMissing_0 rfl (lv_at hl 0 rfl) ?_
  refine va_get (D := D) (ci := 5) (v := .int 0) (C := RX6) (T := TX6) (N := 3) hx hb hts hi6 hown hK hP 18 rfl rfl 1 (by decide) hw0 (fun _ h9 => h9) rfl dX6_isMissing_1 ?_
  refine lv_if_ne (tgt := 11) hx hb dX6_isMissing_4 (by decide) (fun c_1 => absurd (by decide) c_1) (fun c_1 => ?_)
  refine lv_iconst (v := 1) hx hb dX6_isMissing_7 (by decide) ?_
  refine lv_goto (tgt := 12) hx hb dX6_isMissing_8 (by decide) ?_
  exact pret_z hx hb hr hlocks rfl dX6_isMissing_12
set_option maxHeartbeats 4000000 in
set_option maxRecDepth 100000 in
theorem hv_begin3 (l : Launch) (D : va_G) (cy : Nat → ClassId) (a : Nat → Nat) (sz : Nat) (RO : Nat → Nat → Option Nat) (x0 : Int32) (x1 : Int32) : Met l yX6_begin wsX6_begin ({ frames := 1, cells := 0, slots := 0, locals := 23 }) (va_Pc [.ref (a 18), .int x0, .int x1] (PW D cy sz (CW cy a (fun _ => 0) (fun _ => 0) (va_up (fun _ => none) 100 (some (a 4))) (fun _ _ => 0) RO))) (va_Qv (fun (u : CS) => u.2.2.2.2 = RO ∧ u.2.1 578 = if x0 = 0 then 0 else x1) (BW D (va_A (CW cy a (fun _ => 0) (fun _ => 0) (va_up (fun _ => none) 100 (some (a 4))) (fun _ _ => 0) RO) sz) (CWu cy a)) (va_A (CW cy a (fun _ => 0) (fun _ => 0) (va_up (fun _ => none) 100 (some (a 4))) (fun _ _ => 0) RO) sz)) 0 0 (va_A (CW cy a (fun _ => 0) (fun _ => 0) (va_up (fun _ => none) 100 (some (a 4))) (fun _ _ => 0) RO) sz) := by
  refine Met.ofW (cc := cX6_begin) (maxL := 3) (ret := none) (by decide) rfl ?_
  intro p e s m args below meth c s₁ B hml hv
  obtain ⟨rfl, rfl, hP, hK, hN, hD0⟩ := hv
  have hx := B.exec
  have hb := B.bytes
  have hr := B.returns
  have hts := atoms_spec (ws := wsX6_begin) B.pre
  have hown : s.vm.findClass RX6 = some m.cls := findClass_of_methodNamed B.named
  have hlocks := B.notSynchronized
  have hw0 := hts (.fieldLink RX6 13 "ParquetLayer$Sheet" "bits" "I") (by decide +kernel)
  have hw1 := hts (.fieldLink RX6 17 "ParquetLayer$Sheet" "size" "I") (by decide +kernel)
  have hw2 := hts (.fieldLink RX6 9 "ParquetLayer$Sheet" "numbers" "[I") (by decide +kernel)
  have hi6 := ihX6_begin_6
  have hD := hD0.self (sz := s.heap.size)
  generalize hAe : va_A (CW cy a (fun _ => 0) (fun _ => 0) (va_up (fun _ => none) 100 (some (a 4))) (fun _ _ => 0) RO) s.heap.size = A at hD ⊢
  have hA : ∀ q : Nat, s.heap.size ≤ q → A q := fun q h => by rw [← hAe]; exact Or.inr h
  have hS : va_S A s.heap s.heap [] := va_S.rf
  have hl := lv_entry ([.ref (a 18), .int x0, .int x1]) (n := 3) (Nat.le_of_ble_eq_true rfl)
  rw [lg_entry_eq]
  generalize (lg_sl ([.ref (a 18), .int x0, .int x1]) ++ List.replicate (3 - (lg_sl ([.ref (a 18), .int x0, .int x1])).length) Slot.unset).toArray = ls at hl ⊢
  have hl : lv_has ls 3 [(0, .ref (a 18)), (1, .int x0), (2, .int x1)] := hl
  refine lv_aload_n hx hb dX6_begin_0 rfl (lv_at hl 0 rfl) ?_
  refine lv_iload_n hx hb dX6_begin_1 rfl (lv_at hl 1 rfl) ?_
  refine va_put (D := D) (ci := 5) (v := .int x0) (ty := .int) (C := RX6) (T := TX6) (N := 3) hx hb hts hi6 tyX6 tyX6_ok nmX6 hown hK hP hD hS 18 rfl rfl 1 (by decide) hw0 (fun _ h9 => h9) rfl (by decide +kernel) rfl rfl (Nat.le_of_ble_eq_true rfl) dX6_begin_2 (fun H locs hP hD hS => ?_)
  have hP : va_P D vwCl (CW cy a (fun _ => 0) (va_up (fun _ => 0) 577 x0) (va_up (fun _ => none) 100 (some (a 4))) (fun _ _ => 0) RO) H := hP
  have hD : va_D A (CW cy a (fun _ => 0) (va_up (fun _ => 0) 577 x0) (va_up (fun _ => none) 100 (some (a 4))) (fun _ _ => 0) RO) := hD
  refine lv_aload_n hx hb dX6_begin_5 rfl (lv_at hl 0 rfl) ?_
  refine lv_iload_n hx hb dX6_begin_6 rfl (lv_at hl 1 rfl) ?_
  refine lv_if_ne (tgt := 14) hx hb dX6_begin_7 (by decide) (fun c_1 => ?_) (fun c_1 => ?_)
  · refine lv_iload_n hx hb dX6_begin_14 rfl (lv_at hl 2 rfl) ?_
    refine va_put (D := D) (ci := 5) (v := .int x1) (ty := .int) (C := RX6) (T := TX6) (N := 3) hx hb hts hi6 tyX6 tyX6_ok nmX6 hown hK hP hD hS 18 rfl rfl 2 (by decide) hw1 (fun _ h9 => h9) rfl (by decide +kernel) rfl rfl (Nat.le_of_ble_eq_true rfl) dX6_begin_15 (fun H locs hP hD hS => ?_)
    have hP : va_P D vwCl (CW cy a (fun _ => 0) (va_up (va_up (fun _ => 0) 577 x0) 578 x1) (va_up (fun _ => none) 100 (some (a 4))) (fun _ _ => 0) RO) H := hP
    have hD : va_D A (CW cy a (fun _ => 0) (va_up (va_up (fun _ => 0) 577 x0) 578 x1) (va_up (fun _ => none) 100 (some (a 4))) (fun _ _ => 0) RO) := hD
    refine lv_aload_n hx hb dX6_begin_18 rfl (lv_at hl 0 rfl) ?_
    refine va_get (D := D) (ci := 5) (v := .ref (a 19)) (C := RX6) (T := TX6) (N := 3) hx hb hts hi6 hown hK hP 18 rfl rfl 0 (by decide) hw2 (fun _ h9 => h9) rfl dX6_begin_19 ?_
    refine lv_iconst (v := 0) hx hb dX6_begin_22 (by decide) ?_
    refine kO_v (As := [.ref (a 19), .int 0]) (rest := []) (q0 := 19) ⟨hx, hb, hml, hown, hts⟩ (c_fill16 l D cy (a 19) _ (fun _ => 0) 0 ) (va_cwS 2 hts gX6_begin_J7_fill_53178 rfl rfl rfl (by decide +kernel) ⟨Nat.le_of_ble_eq_true rfl, Nat.le_of_ble_eq_true rfl⟩) hK hN hP hD hS hA rfl rfl hl.1 rfl (Nat.le_of_ble_eq_true rfl) dX6_begin_23 ⟨Nat.le_of_ble_eq_true rfl, Nat.le_of_ble_eq_true rfl⟩ (fun u H locs hw hP hD hS => ?_)
    obtain ⟨F_2, rfl⟩ : ∃ z, z = u := ⟨_, rfl⟩
    have hP : va_P D vwCl (CW cy a (fun _ => 0) (va_up (va_up (fun _ => 0) 577 x0) 578 x1) (va_up (fun _ => none) 100 (some (a 4))) (va_up (fun _ _ => 0) 19 F_2) RO) H := hP
    have hD : va_D A (CW cy a (fun _ => 0) (va_up (va_up (fun _ => 0) 577 x0) 578 x1) (va_up (fun _ => none) 100 (some (a 4))) (va_up (fun _ _ => 0) 19 F_2) RO) := hD
    exact wret_v hx hb hr hlocks ((fun _ => 0), (va_up (va_up (fun _ => 0) 577 x0) 578 x1), (va_up (fun _ => none) 100 (some (a 4))), (va_up (fun _ _ => 0) 19 F_2), RO) ⟨rfl, (by simp [va_up, c_1])⟩ hP hD hS dX6_begin_26
  · refine lv_iconst (v := 0) hx hb dX6_begin_10 (by decide) ?_
    refine lv_goto (tgt := 15) hx hb dX6_begin_11 (by decide) ?_
    refine va_put (D := D) (ci := 5) (v := .int 0) (ty := .int) (C := RX6) (T := TX6) (N := 3) hx hb hts hi6 tyX6 tyX6_ok nmX6 hown hK hP hD hS 18 rfl rfl 2 (by decide) hw1 (fun _ h9 => h9) rfl (by decide +kernel) rfl rfl (Nat.le_of_ble_eq_true rfl) dX6_begin_15 (fun H locs hP hD hS => ?_)
    have hP : va_P D vwCl (CW cy a (fun _ => 0) (va_up (fun _ => 0) 577 x0) (va_up (fun _ => none) 100 (some (a 4))) (fun _ _ => 0) RO) H := hP
    have hD : va_D A (CW cy a (fun _ => 0) (va_up (fun _ => 0) 577 x0) (va_up (fun _ => none) 100 (some (a 4))) (fun _ _ => 0) RO) := hD
    refine lv_aload_n hx hb dX6_begin_18 rfl (lv_at hl 0 rfl) ?_
    refine va_get (D := D) (ci := 5) (v := .ref (a 19)) (C := RX6) (T := TX6) (N := 3) hx hb hts hi6 hown hK hP 18 rfl rfl 0 (by decide) hw2 (fun _ h9 => h9) rfl dX6_begin_19 ?_
    refine lv_iconst (v := 0) hx hb dX6_begin_22 (by decide) ?_
    refine kO_v (As := [.ref (a 19), .int 0]) (rest := []) (q0 := 19) ⟨hx, hb, hml, hown, hts⟩ (c_fill16 l D cy (a 19) _ (fun _ => 0) 0 ) (va_cwS 2 hts gX6_begin_J7_fill_53178 rfl rfl rfl (by decide +kernel) ⟨Nat.le_of_ble_eq_true rfl, Nat.le_of_ble_eq_true rfl⟩) hK hN hP hD hS hA rfl rfl hl.1 rfl (Nat.le_of_ble_eq_true rfl) dX6_begin_23 ⟨Nat.le_of_ble_eq_true rfl, Nat.le_of_ble_eq_true rfl⟩ (fun u H locs hw hP hD hS => ?_)
    obtain ⟨F_3, rfl⟩ : ∃ z, z = u := ⟨_, rfl⟩
    have hP : va_P D vwCl (CW cy a (fun _ => 0) (va_up (fun _ => 0) 577 x0) (va_up (fun _ => none) 100 (some (a 4))) (va_up (fun _ _ => 0) 19 F_3) RO) H := hP
    have hD : va_D A (CW cy a (fun _ => 0) (va_up (fun _ => 0) 577 x0) (va_up (fun _ => none) 100 (some (a 4))) (va_up (fun _ _ => 0) 19 F_3) RO) := hD
    exact wret_v hx hb hr hlocks ((fun _ => 0), (va_up (fun _ => 0) 577 x0), (va_up (fun _ => none) 100 (some (a 4))), (va_up (fun _ _ => 0) 19 F_3), RO) ⟨rfl, (by simp [va_up, c_1])⟩ hP hD hS dX6_begin_26
theorem sheet_ok {q bits n : Int32} (hw : m_within q 0 3 = true) (hb : bits = 0 ∨ bits = 8 ∨ bits = 16 ∨ bits = 32) (h0 : 0 ≤ n) (h1 : n ≤ 16) : a_sheet q bits n = if bits = 0 then 0 else n := by
  have e : (decide (bits = 0) || decide (bits = 8) || decide (bits = 16) || decide (bits = 32)) = true := by
    rcases hb with rfl | rfl | rfl | rfl <;> rfl
  rw [a_sheet, hw, e]
  simp [i32_nlt h0, i32_nlt h1]
theorem dX9_sheet_0 : decode cX9_sheet 0 = .ok (.aload_n 0, 1) := by decide +kernel
theorem dX9_sheet_1 : decode cX9_sheet 1 = .ok (.iload_n 1, 1) := by decide +kernel
set_option maxRecDepth 20000 in
theorem ggX9_sheet_X9_isSheet : GoodIn wsX9_sheet wsX9_isSheet := goodIn_r _ [9, 3, 27, 28, 29, 30, 31, 32, 33, 34, 35, 36, 37] (by decide +kernel) (by decide +kernel)
set_option maxRecDepth 20000 in
theorem gX9_sheet_X9_isSheet : GoodIn wsX9_sheet (wsV RX9 279 RX9 yX9_isSheet wsX9_isSheet) := goodIn_app (goodIn_of _ (by decide +kernel)) ggX9_sheet_X9_isSheet
theorem dX9_sheet_2 : decode cX9_sheet 2 = .ok (.invokevirtual 279, 3) := by decide +kernel
theorem dX9_sheet_5 : decode cX9_sheet 5 = .ok (.ifCond .eq 25, 3) := by decide +kernel
theorem dX9_sheet_30 : decode cX9_sheet 30 = .ok (.aload_n 0, 1) := by decide +kernel
theorem dX9_sheet_31 : decode cX9_sheet 31 = .ok (.ldc 43, 2) := by decide +kernel
set_option maxRecDepth 20000 in
theorem ggX9_sheet_X9_finding : GoodIn wsX9_sheet wsX9_finding := goodIn_r _ [13, 14, 27, 28, 29, 30, 31, 32, 33, 34, 35, 36, 37] (by decide +kernel) (by decide +kernel)
set_option maxRecDepth 20000 in
theorem gX9_sheet_X9_finding : GoodIn wsX9_sheet (wsV RX9 44 RX9 yX9_finding wsX9_finding) := goodIn_app (goodIn_of _ (by decide +kernel)) ggX9_sheet_X9_finding
theorem dX9_sheet_33 : decode cX9_sheet 33 = .ok (.invokevirtual 44, 3) := by decide +kernel
theorem dX9_sheet_36 : decode cX9_sheet 36 = .ok (.ireturn, 1) := by decide +kernel
theorem dX9_sheet_8 : decode cX9_sheet 8 = .ok (.iload_n 2, 1) := by decide +kernel
theorem dX9_sheet_9 : decode cX9_sheet 9 = .ok (.ifCond .eq 28, 3) := by decide +kernel
theorem dX9_sheet_37 : decode cX9_sheet 37 = .ok (.iload_n 3, 1) := by decide +kernel
theorem dX9_sheet_38 : decode cX9_sheet 38 = .ok (.ifCond .ge 10, 3) := by decide +kernel
theorem dX9_sheet_48 : decode cX9_sheet 48 = .ok (.iload_n 3, 1) := by decide +kernel
theorem dX9_sheet_49 : decode cX9_sheet 49 = .ok (.bipush 16, 2) := by decide +kernel
theorem dX9_sheet_51 : decode cX9_sheet 51 = .ok (.if_icmp .le 10, 3) := by decide +kernel
theorem dX9_sheet_61 : decode cX9_sheet 61 = .ok (.aload_n 0, 1) := by decide +kernel
theorem dX9_sheet_62 : decode cX9_sheet 62 = .ok (.getfield 9, 3) := by decide +kernel
theorem dX9_sheet_65 : decode cX9_sheet 65 = .ok (.iload_n 1, 1) := by decide +kernel
theorem dX9_sheet_66 : decode cX9_sheet 66 = .ok (.aaload, 1) := by decide +kernel
theorem dX9_sheet_67 : decode cX9_sheet 67 = .ok (.iload_n 2, 1) := by decide +kernel
theorem dX9_sheet_68 : decode cX9_sheet 68 = .ok (.iload_n 3, 1) := by decide +kernel
set_option maxRecDepth 20000 in
theorem ggX9_sheet_X6_begin : GoodIn wsX9_sheet wsX6_begin := goodIn_r _ [19, 20, 21, 22, 23, 24, 25, 26, 38, 39, 40] (by decide +kernel) (by decide +kernel)
set_option maxRecDepth 20000 in
theorem gX9_sheet_X6_begin : GoodIn wsX9_sheet (wsV RX9 282 RX6 yX6_begin wsX6_begin) := goodIn_app (goodIn_of _ (by decide +kernel)) ggX9_sheet_X6_begin
theorem dX9_sheet_69 : decode cX9_sheet 69 = .ok (.invokevirtual 282, 3) := by decide +kernel
theorem dX9_sheet_72 : decode cX9_sheet 72 = .ok (.aload_n 0, 1) := by decide +kernel
theorem dX9_sheet_73 : decode cX9_sheet 73 = .ok (.getfield 9, 3) := by decide +kernel
theorem dX9_sheet_76 : decode cX9_sheet 76 = .ok (.iload_n 1, 1) := by decide +kernel
theorem dX9_sheet_77 : decode cX9_sheet 77 = .ok (.aaload, 1) := by decide +kernel
theorem dX9_sheet_78 : decode cX9_sheet 78 = .ok (.getfield 286, 3) := by decide +kernel
theorem dX9_sheet_81 : decode cX9_sheet 81 = .ok (.ireturn, 1) := by decide +kernel
theorem dX9_sheet_54 : decode cX9_sheet 54 = .ok (.aload_n 0, 1) := by decide +kernel
theorem dX9_sheet_55 : decode cX9_sheet 55 = .ok (.ldc 43, 2) := by decide +kernel
theorem dX9_sheet_57 : decode cX9_sheet 57 = .ok (.invokevirtual 44, 3) := by decide +kernel
theorem dX9_sheet_60 : decode cX9_sheet 60 = .ok (.ireturn, 1) := by decide +kernel
theorem dX9_sheet_41 : decode cX9_sheet 41 = .ok (.aload_n 0, 1) := by decide +kernel
theorem dX9_sheet_42 : decode cX9_sheet 42 = .ok (.ldc 99, 2) := by decide +kernel
theorem dX9_sheet_44 : decode cX9_sheet 44 = .ok (.invokevirtual 44, 3) := by decide +kernel
theorem dX9_sheet_47 : decode cX9_sheet 47 = .ok (.ireturn, 1) := by decide +kernel
theorem dX9_sheet_12 : decode cX9_sheet 12 = .ok (.iload_n 2, 1) := by decide +kernel
theorem dX9_sheet_13 : decode cX9_sheet 13 = .ok (.bipush 8, 2) := by decide +kernel
theorem dX9_sheet_15 : decode cX9_sheet 15 = .ok (.if_icmp .eq 22, 3) := by decide +kernel
theorem dX9_sheet_18 : decode cX9_sheet 18 = .ok (.iload_n 2, 1) := by decide +kernel
theorem dX9_sheet_19 : decode cX9_sheet 19 = .ok (.bipush 16, 2) := by decide +kernel
theorem dX9_sheet_21 : decode cX9_sheet 21 = .ok (.if_icmp .eq 16, 3) := by decide +kernel
theorem dX9_sheet_24 : decode cX9_sheet 24 = .ok (.iload_n 2, 1) := by decide +kernel
theorem dX9_sheet_25 : decode cX9_sheet 25 = .ok (.bipush 32, 2) := by decide +kernel
theorem dX9_sheet_27 : decode cX9_sheet 27 = .ok (.if_icmp .eq 10, 3) := by decide +kernel
set_option maxRecDepth 20000 in
theorem ihX9_sheet_6 : ∀ w ∈ u_ws RX6 TX6 3, w ∈ wsX9_sheet := by decide +kernel
set_option maxRecDepth 20000 in
theorem ihX9_sheet_9 : ∀ w ∈ u_ws RX9 TX9 11, w ∈ wsX9_sheet := by decide +kernel
set_option maxHeartbeats 4000000 in
set_option maxRecDepth 100000 in
theorem xp_X9_sheet (l : Launch) (D : va_G) (cy : Nat → ClassId) (a : Nat → Nat) (sz : Nat) (RO : Nat → Nat → Option Nat) (x0 : Int32) (x1 : Int32) (x2 : Int32) (hRO0 : RO 1 0 = some (a 12)) (hRO1 : RO 1 1 = some (a 14)) (hRO2 : RO 1 2 = some (a 16)) (hRO3 : RO 1 3 = some (a 18)) : Met l yX9_sheet wsX9_sheet ({ frames := 2, cells := 0, slots := 0, locals := 45 }) (va_Pc [.ref (a 0), .int x0, .int x1, .int x2] (PW D cy sz (CW cy a (fun _ => 0) (fun _ => 0) (va_up (fun _ => none) 100 (some (a 4))) (fun _ _ => 0) RO))) (va_Qi (fun r (_ : Unit) => r = a_sheet x0 x1 x2) (fun _ _ => True) (va_A (CW cy a (fun _ => 0) (fun _ => 0) (va_up (fun _ => none) 100 (some (a 4))) (fun _ _ => 0) RO) sz)) 0 0 (va_A (CW cy a (fun _ => 0) (fun _ => 0) (va_up (fun _ => none) 100 (some (a 4))) (fun _ _ => 0) RO) sz) := by
  refine Met.ofW (cc := cX9_sheet) (maxL := 4) (ret := (some .int)) (by decide) rfl ?_
  intro p e s m args below meth c s₁ B hml hv
  obtain ⟨rfl, rfl, hP, hK, hN, hD0⟩ := hv
  have hx := B.exec
  have hb := B.bytes
  have hr := B.returns
  have hts := atoms_spec (ws := wsX9_sheet) B.pre
  have hown : s.vm.findClass RX9 = some m.cls := findClass_of_methodNamed B.named
  have hlocks := B.notSynchronized
  have hw0 := hts (.constant RX9 43 (-100001)) (by decide +kernel)
  have hw1 := hts (.fieldLink RX9 9 "ParquetLayer" "sheets" "[LParquetLayer$Sheet;") (by decide +kernel)
  have hw2 := hts (.fieldLink RX9 286 "ParquetLayer$Sheet" "size" "I") (by decide +kernel)
  have hw3 := hts (.constant RX9 99 (-100003)) (by decide +kernel)
  have hi6 := ihX9_sheet_6
  have hi9 := ihX9_sheet_9
  have hD := hD0.self (sz := s.heap.size)
  generalize hAe : va_A (CW cy a (fun _ => 0) (fun _ => 0) (va_up (fun _ => none) 100 (some (a 4))) (fun _ _ => 0) RO) s.heap.size = A at hD ⊢
  have hA : ∀ q : Nat, s.heap.size ≤ q → A q := fun q h => by rw [← hAe]; exact Or.inr h
  have hS : va_S A s.heap s.heap [] := va_S.rf
  have hl := lv_entry ([.ref (a 0), .int x0, .int x1, .int x2]) (n := 4) (Nat.le_of_ble_eq_true rfl)
  rw [lg_entry_eq]
  generalize (lg_sl ([.ref (a 0), .int x0, .int x1, .int x2]) ++ List.replicate (4 - (lg_sl ([.ref (a 0), .int x0, .int x1, .int x2])).length) Slot.unset).toArray = ls at hl ⊢
  have hl : lv_has ls 4 [(0, .ref (a 0)), (1, .int x0), (2, .int x1), (3, .int x2)] := hl
  refine lv_aload_n hx hb dX9_sheet_0 rfl (lv_at hl 0 rfl) ?_
  refine lv_iload_n hx hb dX9_sheet_1 rfl (lv_at hl 1 rfl) ?_
  refine kR_i (As := [.int x0]) (rest := []) (q0 := 0) ⟨hx, hb, hml, hown, hts⟩ (c_X9_isSheet l D cy a _ RO x0 ) (cwV 1 hts gX9_sheet_X9_isSheet rfl rfl rfl (by decide +kernel) ⟨Nat.le_of_ble_eq_true rfl, Nat.le_of_ble_eq_true rfl⟩) hK hN hP hD rfl rfl rfl hl.1 rfl (Nat.le_of_ble_eq_true rfl) dX9_sheet_2 ⟨Nat.le_of_ble_eq_true rfl, Nat.le_of_ble_eq_true rfl⟩ ?_
  refine lv_if_eq (tgt := 30) hx hb dX9_sheet_5 (by decide) (fun c_1 => ?_) (fun c_1 => ?_)
  · replace c_1 := bI_f c_1
    refine lv_aload_n hx hb dX9_sheet_30 rfl (lv_at hl 0 rfl) ?_
    refine lv_ldc (v := (-100001)) hx hb hown hw0 dX9_sheet_31 ?_
    refine kM_i (As := [.int (-100001)]) (rest := []) (q0 := 0) ⟨hx, hb, hml, hown, hts⟩ (c_X9_finding l D cy a _ (fun _ => 0) (fun _ => 0) (va_up (fun _ => none) 100 (some (a 4))) (fun _ _ => 0) RO (-100001) ) (cwV 1 hts gX9_sheet_X9_finding rfl rfl rfl (by decide +kernel) ⟨Nat.le_of_ble_eq_true rfl, Nat.le_of_ble_eq_true rfl⟩) hK hN hP hD hS hA rfl rfl rfl hl.1 rfl (Nat.le_of_ble_eq_true rfl) dX9_sheet_33 ⟨Nat.le_of_ble_eq_true rfl, Nat.le_of_ble_eq_true rfl⟩ (fun r u H locs hw hP hD hS => ?_)
    obtain ⟨rfl, rfl⟩ := hw
    have hP : va_P D vwCl (CW cy a (fun _ => 0) (va_up (fun _ => 0) 10 (0 + 1)) (va_up (fun _ => none) 100 (some (a 4))) (fun _ _ => 0) RO) H := hP
    have hD : va_D A (CW cy a (fun _ => 0) (va_up (fun _ => 0) 10 (0 + 1)) (va_up (fun _ => none) 100 (some (a 4))) (fun _ _ => 0) RO) := hD
    exact qret_i hx hb hr hlocks (by simp_all [a_sheet, i32_nlt]) hS dX9_sheet_36
  · replace c_1 := bI_t c_1
    refine lv_iload_n hx hb dX9_sheet_8 rfl (lv_at hl 2 rfl) ?_
    refine lv_if_eq (tgt := 37) hx hb dX9_sheet_9 (by decide) (fun c_2 => ?_) (fun c_2 => ?_)
    · refine lv_iload_n hx hb dX9_sheet_37 rfl (lv_at hl 3 rfl) ?_
      refine lv_if_ge (tgt := 48) hx hb dX9_sheet_38 (by decide) (fun c_3 => ?_) (fun c_3 => ?_)
      · refine lv_iload_n hx hb dX9_sheet_48 rfl (lv_at hl 3 rfl) ?_
        refine lv_bipush (v := 16) hx hb dX9_sheet_49 (by decide) ?_
        refine lv_icmp_le (tgt := 61) hx hb dX9_sheet_51 (by decide) (fun c_4 => ?_) (fun c_4 => ?_)
        · refine lv_aload_n hx hb dX9_sheet_61 rfl (lv_at hl 0 rfl) ?_
          refine va_get (D := D) (ci := 8) (v := .ref (a 1)) (C := RX9) (T := TX9) (N := 11) hx hb hts hi9 hown hK hP 0 rfl rfl 0 (by decide) hw1 (fun _ h9 => h9) rfl dX9_sheet_62 ?_
          refine lv_iload_n hx hb dX9_sheet_65 rfl (lv_at hl 1 rfl) ?_
          refine va_aldq hx hb hK hP 1 4 rfl rfl (within_in4 c_1) dX9_sheet_66 ?_
          rcases in4 (within_in4 c_1) with hj_5 | hj_5 | hj_5 | hj_5
          · refine wtop_v (y := .ref (a 12)) (by rw [hj_5]; exact congrArg va_rf hRO0) ?_
            refine lv_iload_n hx hb dX9_sheet_67 rfl (lv_at hl 2 rfl) ?_
            refine lv_iload_n hx hb dX9_sheet_68 rfl (lv_at hl 3 rfl) ?_
            refine kM_v (As := [.int x1, .int x2]) (rest := []) (q0 := 12) ⟨hx, hb, hml, hown, hts⟩ (hv_begin0 l D cy a _ RO x1 x2 ) (cwV 2 hts gX9_sheet_X6_begin rfl rfl rfl (by decide +kernel) ⟨Nat.le_of_ble_eq_true rfl, Nat.le_of_ble_eq_true rfl⟩) hK hN hP hD hS hA rfl rfl rfl hl.1 rfl (Nat.le_of_ble_eq_true rfl) dX9_sheet_69 ⟨Nat.le_of_ble_eq_true rfl, Nat.le_of_ble_eq_true rfl⟩ (fun u H locs hw hP hD hS => ?_)
            obtain ⟨z_6, z_7, z_8, z_9, z_10⟩ := u
            obtain ⟨h1, hsz⟩ := hw
            dsimp only at h1 hsz
            have h5 := h1.symm
            subst h5
            have hP : va_P D vwCl (CW cy a z_6 z_7 z_8 z_9 RO) H := hP
            have hD : va_D A (CW cy a z_6 z_7 z_8 z_9 RO) := hD
            refine lv_aload_n hx hb dX9_sheet_72 rfl (lv_at hl 0 rfl) ?_
            refine va_get (D := D) (ci := 8) (v := .ref (a 1)) (C := RX9) (T := TX9) (N := 11) hx hb hts hi9 hown hK hP 0 rfl rfl 0 (by decide) hw1 (fun _ h9 => h9) rfl dX9_sheet_73 ?_
            refine lv_iload_n hx hb dX9_sheet_76 rfl (lv_at hl 1 rfl) ?_
            refine va_aldq hx hb hK hP 1 4 rfl rfl (within_in4 c_1) dX9_sheet_77 ?_
            refine wtop_v (y := .ref (a 12)) (by rw [hj_5]; exact congrArg va_rf hRO0) ?_
            refine va_get (D := D) (ci := 5) (v := .int (z_7 386)) (C := RX6) (T := TX6) (N := 3) hx hb hts hi6 hown hK hP 12 rfl rfl 2 (by decide) hw2 (fun _ h9 => h9) rfl dX9_sheet_78 ?_
            exact qret_i hx hb hr hlocks (hsz.trans (sheet_ok c_1 (Or.inl c_2) c_3 c_4).symm) hS dX9_sheet_81
          · refine wtop_v (y := .ref (a 14)) (by rw [hj_5]; exact congrArg va_rf hRO1) ?_
            refine lv_iload_n hx hb dX9_sheet_67 rfl (lv_at hl 2 rfl) ?_
            refine lv_iload_n hx hb dX9_sheet_68 rfl (lv_at hl 3 rfl) ?_
            refine kM_v (As := [.int x1, .int x2]) (rest := []) (q0 := 14) ⟨hx, hb, hml, hown, hts⟩ (hv_begin1 l D cy a _ RO x1 x2 ) (cwV 2 hts gX9_sheet_X6_begin rfl rfl rfl (by decide +kernel) ⟨Nat.le_of_ble_eq_true rfl, Nat.le_of_ble_eq_true rfl⟩) hK hN hP hD hS hA rfl rfl rfl hl.1 rfl (Nat.le_of_ble_eq_true rfl) dX9_sheet_69 ⟨Nat.le_of_ble_eq_true rfl, Nat.le_of_ble_eq_true rfl⟩ (fun u H locs hw hP hD hS => ?_)
            obtain ⟨z_11, z_12, z_13, z_14, z_15⟩ := u
            obtain ⟨h1, hsz⟩ := hw
            dsimp only at h1 hsz
            have h5 := h1.symm
            subst h5
            have hP : va_P D vwCl (CW cy a z_11 z_12 z_13 z_14 RO) H := hP
            have hD : va_D A (CW cy a z_11 z_12 z_13 z_14 RO) := hD
            refine lv_aload_n hx hb dX9_sheet_72 rfl (lv_at hl 0 rfl) ?_
            refine va_get (D := D) (ci := 8) (v := .ref (a 1)) (C := RX9) (T := TX9) (N := 11) hx hb hts hi9 hown hK hP 0 rfl rfl 0 (by decide) hw1 (fun _ h9 => h9) rfl dX9_sheet_73 ?_
            refine lv_iload_n hx hb dX9_sheet_76 rfl (lv_at hl 1 rfl) ?_
            refine va_aldq hx hb hK hP 1 4 rfl rfl (within_in4 c_1) dX9_sheet_77 ?_
            refine wtop_v (y := .ref (a 14)) (by rw [hj_5]; exact congrArg va_rf hRO1) ?_
            refine va_get (D := D) (ci := 5) (v := .int (z_12 450)) (C := RX6) (T := TX6) (N := 3) hx hb hts hi6 hown hK hP 14 rfl rfl 2 (by decide) hw2 (fun _ h9 => h9) rfl dX9_sheet_78 ?_
            exact qret_i hx hb hr hlocks (hsz.trans (sheet_ok c_1 (Or.inl c_2) c_3 c_4).symm) hS dX9_sheet_81
          · refine wtop_v (y := .ref (a 16)) (by rw [hj_5]; exact congrArg va_rf hRO2) ?_
            refine lv_iload_n hx hb dX9_sheet_67 rfl (lv_at hl 2 rfl) ?_
            refine lv_iload_n hx hb dX9_sheet_68 rfl (lv_at hl 3 rfl) ?_
            refine kM_v (As := [.int x1, .int x2]) (rest := []) (q0 := 16) ⟨hx, hb, hml, hown, hts⟩ (hv_begin2 l D cy a _ RO x1 x2 ) (cwV 2 hts gX9_sheet_X6_begin rfl rfl rfl (by decide +kernel) ⟨Nat.le_of_ble_eq_true rfl, Nat.le_of_ble_eq_true rfl⟩) hK hN hP hD hS hA rfl rfl rfl hl.1 rfl (Nat.le_of_ble_eq_true rfl) dX9_sheet_69 ⟨Nat.le_of_ble_eq_true rfl, Nat.le_of_ble_eq_true rfl⟩ (fun u H locs hw hP hD hS => ?_)
            obtain ⟨z_16, z_17, z_18, z_19, z_20⟩ := u
            obtain ⟨h1, hsz⟩ := hw
            dsimp only at h1 hsz
            have h5 := h1.symm
            subst h5
            have hP : va_P D vwCl (CW cy a z_16 z_17 z_18 z_19 RO) H := hP
            have hD : va_D A (CW cy a z_16 z_17 z_18 z_19 RO) := hD
            refine lv_aload_n hx hb dX9_sheet_72 rfl (lv_at hl 0 rfl) ?_
            refine va_get (D := D) (ci := 8) (v := .ref (a 1)) (C := RX9) (T := TX9) (N := 11) hx hb hts hi9 hown hK hP 0 rfl rfl 0 (by decide) hw1 (fun _ h9 => h9) rfl dX9_sheet_73 ?_
            refine lv_iload_n hx hb dX9_sheet_76 rfl (lv_at hl 1 rfl) ?_
            refine va_aldq hx hb hK hP 1 4 rfl rfl (within_in4 c_1) dX9_sheet_77 ?_
            refine wtop_v (y := .ref (a 16)) (by rw [hj_5]; exact congrArg va_rf hRO2) ?_
            refine va_get (D := D) (ci := 5) (v := .int (z_17 514)) (C := RX6) (T := TX6) (N := 3) hx hb hts hi6 hown hK hP 16 rfl rfl 2 (by decide) hw2 (fun _ h9 => h9) rfl dX9_sheet_78 ?_
            exact qret_i hx hb hr hlocks (hsz.trans (sheet_ok c_1 (Or.inl c_2) c_3 c_4).symm) hS dX9_sheet_81
          · refine wtop_v (y := .ref (a 18)) (by rw [hj_5]; exact congrArg va_rf hRO3) ?_
            refine lv_iload_n hx hb dX9_sheet_67 rfl (lv_at hl 2 rfl) ?_
            refine lv_iload_n hx hb dX9_sheet_68 rfl (lv_at hl 3 rfl) ?_
            refine kM_v (As := [.int x1, .int x2]) (rest := []) (q0 := 18) ⟨hx, hb, hml, hown, hts⟩ (hv_begin3 l D cy a _ RO x1 x2 ) (cwV 2 hts gX9_sheet_X6_begin rfl rfl rfl (by decide +kernel) ⟨Nat.le_of_ble_eq_true rfl, Nat.le_of_ble_eq_true rfl⟩) hK hN hP hD hS hA rfl rfl rfl hl.1 rfl (Nat.le_of_ble_eq_true rfl) dX9_sheet_69 ⟨Nat.le_of_ble_eq_true rfl, Nat.le_of_ble_eq_true rfl⟩ (fun u H locs hw hP hD hS => ?_)
            obtain ⟨z_21, z_22, z_23, z_24, z_25⟩ := u
            obtain ⟨h1, hsz⟩ := hw
            dsimp only at h1 hsz
            have h5 := h1.symm
            subst h5
            have hP : va_P D vwCl (CW cy a z_21 z_22 z_23 z_24 RO) H := hP
            have hD : va_D A (CW cy a z_21 z_22 z_23 z_24 RO) := hD
            refine lv_aload_n hx hb dX9_sheet_72 rfl (lv_at hl 0 rfl) ?_
            refine va_get (D := D) (ci := 8) (v := .ref (a 1)) (C := RX9) (T := TX9) (N := 11) hx hb hts hi9 hown hK hP 0 rfl rfl 0 (by decide) hw1 (fun _ h9 => h9) rfl dX9_sheet_73 ?_
            refine lv_iload_n hx hb dX9_sheet_76 rfl (lv_at hl 1 rfl) ?_
            refine va_aldq hx hb hK hP 1 4 rfl rfl (within_in4 c_1) dX9_sheet_77 ?_
            refine wtop_v (y := .ref (a 18)) (by rw [hj_5]; exact congrArg va_rf hRO3) ?_
            refine va_get (D := D) (ci := 5) (v := .int (z_22 578)) (C := RX6) (T := TX6) (N := 3) hx hb hts hi6 hown hK hP 18 rfl rfl 2 (by decide) hw2 (fun _ h9 => h9) rfl dX9_sheet_78 ?_
            exact qret_i hx hb hr hlocks (hsz.trans (sheet_ok c_1 (Or.inl c_2) c_3 c_4).symm) hS dX9_sheet_81
        · refine lv_aload_n hx hb dX9_sheet_54 rfl (lv_at hl 0 rfl) ?_
          refine lv_ldc (v := (-100001)) hx hb hown hw0 dX9_sheet_55 ?_
          refine kM_i (As := [.int (-100001)]) (rest := []) (q0 := 0) ⟨hx, hb, hml, hown, hts⟩ (c_X9_finding l D cy a _ (fun _ => 0) (fun _ => 0) (va_up (fun _ => none) 100 (some (a 4))) (fun _ _ => 0) RO (-100001) ) (cwV 1 hts gX9_sheet_X9_finding rfl rfl rfl (by decide +kernel) ⟨Nat.le_of_ble_eq_true rfl, Nat.le_of_ble_eq_true rfl⟩) hK hN hP hD hS hA rfl rfl rfl hl.1 rfl (Nat.le_of_ble_eq_true rfl) dX9_sheet_57 ⟨Nat.le_of_ble_eq_true rfl, Nat.le_of_ble_eq_true rfl⟩ (fun r u H locs hw hP hD hS => ?_)
          obtain ⟨rfl, rfl⟩ := hw
          have hP : va_P D vwCl (CW cy a (fun _ => 0) (va_up (fun _ => 0) 10 (0 + 1)) (va_up (fun _ => none) 100 (some (a 4))) (fun _ _ => 0) RO) H := hP
          have hD : va_D A (CW cy a (fun _ => 0) (va_up (fun _ => 0) 10 (0 + 1)) (va_up (fun _ => none) 100 (some (a 4))) (fun _ _ => 0) RO) := hD
          exact qret_i hx hb hr hlocks (by simp_all [a_sheet, i32_nlt]) hS dX9_sheet_60
      · refine lv_aload_n hx hb dX9_sheet_41 rfl (lv_at hl 0 rfl) ?_
        refine lv_ldc (v := (-100003)) hx hb hown hw3 dX9_sheet_42 ?_
        refine kM_i (As := [.int (-100003)]) (rest := []) (q0 := 0) ⟨hx, hb, hml, hown, hts⟩ (c_X9_finding l D cy a _ (fun _ => 0) (fun _ => 0) (va_up (fun _ => none) 100 (some (a 4))) (fun _ _ => 0) RO (-100003) ) (cwV 1 hts gX9_sheet_X9_finding rfl rfl rfl (by decide +kernel) ⟨Nat.le_of_ble_eq_true rfl, Nat.le_of_ble_eq_true rfl⟩) hK hN hP hD hS hA rfl rfl rfl hl.1 rfl (Nat.le_of_ble_eq_true rfl) dX9_sheet_44 ⟨Nat.le_of_ble_eq_true rfl, Nat.le_of_ble_eq_true rfl⟩ (fun r u H locs hw hP hD hS => ?_)
        obtain ⟨rfl, rfl⟩ := hw
        have hP : va_P D vwCl (CW cy a (fun _ => 0) (va_up (fun _ => 0) 10 (0 + 1)) (va_up (fun _ => none) 100 (some (a 4))) (fun _ _ => 0) RO) H := hP
        have hD : va_D A (CW cy a (fun _ => 0) (va_up (fun _ => 0) 10 (0 + 1)) (va_up (fun _ => none) 100 (some (a 4))) (fun _ _ => 0) RO) := hD
        exact qret_i hx hb hr hlocks (by simp_all [a_sheet, i32_nlt]) hS dX9_sheet_47
    · refine lv_iload_n hx hb dX9_sheet_12 rfl (lv_at hl 2 rfl) ?_
      refine lv_bipush (v := 8) hx hb dX9_sheet_13 (by decide) ?_
      refine lv_icmp_eq (tgt := 37) hx hb dX9_sheet_15 (by decide) (fun c_26 => ?_) (fun c_26 => ?_)
      · refine lv_iload_n hx hb dX9_sheet_37 rfl (lv_at hl 3 rfl) ?_
        refine lv_if_ge (tgt := 48) hx hb dX9_sheet_38 (by decide) (fun c_27 => ?_) (fun c_27 => ?_)
        · refine lv_iload_n hx hb dX9_sheet_48 rfl (lv_at hl 3 rfl) ?_
          refine lv_bipush (v := 16) hx hb dX9_sheet_49 (by decide) ?_
          refine lv_icmp_le (tgt := 61) hx hb dX9_sheet_51 (by decide) (fun c_28 => ?_) (fun c_28 => ?_)
          · refine lv_aload_n hx hb dX9_sheet_61 rfl (lv_at hl 0 rfl) ?_
            refine va_get (D := D) (ci := 8) (v := .ref (a 1)) (C := RX9) (T := TX9) (N := 11) hx hb hts hi9 hown hK hP 0 rfl rfl 0 (by decide) hw1 (fun _ h9 => h9) rfl dX9_sheet_62 ?_
            refine lv_iload_n hx hb dX9_sheet_65 rfl (lv_at hl 1 rfl) ?_
            refine va_aldq hx hb hK hP 1 4 rfl rfl (within_in4 c_1) dX9_sheet_66 ?_
            rcases in4 (within_in4 c_1) with hj_29 | hj_29 | hj_29 | hj_29
            · refine wtop_v (y := .ref (a 12)) (by rw [hj_29]; exact congrArg va_rf hRO0) ?_
              refine lv_iload_n hx hb dX9_sheet_67 rfl (lv_at hl 2 rfl) ?_
              refine lv_iload_n hx hb dX9_sheet_68 rfl (lv_at hl 3 rfl) ?_
              refine kM_v (As := [.int x1, .int x2]) (rest := []) (q0 := 12) ⟨hx, hb, hml, hown, hts⟩ (hv_begin0 l D cy a _ RO x1 x2 ) (cwV 2 hts gX9_sheet_X6_begin rfl rfl rfl (by decide +kernel) ⟨Nat.le_of_ble_eq_true rfl, Nat.le_of_ble_eq_true rfl⟩) hK hN hP hD hS hA rfl rfl rfl hl.1 rfl (Nat.le_of_ble_eq_true rfl) dX9_sheet_69 ⟨Nat.le_of_ble_eq_true rfl, Nat.le_of_ble_eq_true rfl⟩ (fun u H locs hw hP hD hS => ?_)
              obtain ⟨z_30, z_31, z_32, z_33, z_34⟩ := u
              obtain ⟨h1, hsz⟩ := hw
              dsimp only at h1 hsz
              have h5 := h1.symm
              subst h5
              have hP : va_P D vwCl (CW cy a z_30 z_31 z_32 z_33 RO) H := hP
              have hD : va_D A (CW cy a z_30 z_31 z_32 z_33 RO) := hD
              refine lv_aload_n hx hb dX9_sheet_72 rfl (lv_at hl 0 rfl) ?_
              refine va_get (D := D) (ci := 8) (v := .ref (a 1)) (C := RX9) (T := TX9) (N := 11) hx hb hts hi9 hown hK hP 0 rfl rfl 0 (by decide) hw1 (fun _ h9 => h9) rfl dX9_sheet_73 ?_
              refine lv_iload_n hx hb dX9_sheet_76 rfl (lv_at hl 1 rfl) ?_
              refine va_aldq hx hb hK hP 1 4 rfl rfl (within_in4 c_1) dX9_sheet_77 ?_
              refine wtop_v (y := .ref (a 12)) (by rw [hj_29]; exact congrArg va_rf hRO0) ?_
              refine va_get (D := D) (ci := 5) (v := .int (z_31 386)) (C := RX6) (T := TX6) (N := 3) hx hb hts hi6 hown hK hP 12 rfl rfl 2 (by decide) hw2 (fun _ h9 => h9) rfl dX9_sheet_78 ?_
              exact qret_i hx hb hr hlocks (hsz.trans (sheet_ok c_1 (Or.inr (Or.inl c_26)) c_27 c_28).symm) hS dX9_sheet_81
            · refine wtop_v (y := .ref (a 14)) (by rw [hj_29]; exact congrArg va_rf hRO1) ?_
              refine lv_iload_n hx hb dX9_sheet_67 rfl (lv_at hl 2 rfl) ?_
              refine lv_iload_n hx hb dX9_sheet_68 rfl (lv_at hl 3 rfl) ?_
              refine kM_v (As := [.int x1, .int x2]) (rest := []) (q0 := 14) ⟨hx, hb, hml, hown, hts⟩ (hv_begin1 l D cy a _ RO x1 x2 ) (cwV 2 hts gX9_sheet_X6_begin rfl rfl rfl (by decide +kernel) ⟨Nat.le_of_ble_eq_true rfl, Nat.le_of_ble_eq_true rfl⟩) hK hN hP hD hS hA rfl rfl rfl hl.1 rfl (Nat.le_of_ble_eq_true rfl) dX9_sheet_69 ⟨Nat.le_of_ble_eq_true rfl, Nat.le_of_ble_eq_true rfl⟩ (fun u H locs hw hP hD hS => ?_)
              obtain ⟨z_35, z_36, z_37, z_38, z_39⟩ := u
              obtain ⟨h1, hsz⟩ := hw
              dsimp only at h1 hsz
              have h5 := h1.symm
              subst h5
              have hP : va_P D vwCl (CW cy a z_35 z_36 z_37 z_38 RO) H := hP
              have hD : va_D A (CW cy a z_35 z_36 z_37 z_38 RO) := hD
              refine lv_aload_n hx hb dX9_sheet_72 rfl (lv_at hl 0 rfl) ?_
              refine va_get (D := D) (ci := 8) (v := .ref (a 1)) (C := RX9) (T := TX9) (N := 11) hx hb hts hi9 hown hK hP 0 rfl rfl 0 (by decide) hw1 (fun _ h9 => h9) rfl dX9_sheet_73 ?_
              refine lv_iload_n hx hb dX9_sheet_76 rfl (lv_at hl 1 rfl) ?_
              refine va_aldq hx hb hK hP 1 4 rfl rfl (within_in4 c_1) dX9_sheet_77 ?_
              refine wtop_v (y := .ref (a 14)) (by rw [hj_29]; exact congrArg va_rf hRO1) ?_
              refine va_get (D := D) (ci := 5) (v := .int (z_36 450)) (C := RX6) (T := TX6) (N := 3) hx hb hts hi6 hown hK hP 14 rfl rfl 2 (by decide) hw2 (fun _ h9 => h9) rfl dX9_sheet_78 ?_
              exact qret_i hx hb hr hlocks (hsz.trans (sheet_ok c_1 (Or.inr (Or.inl c_26)) c_27 c_28).symm) hS dX9_sheet_81
            · refine wtop_v (y := .ref (a 16)) (by rw [hj_29]; exact congrArg va_rf hRO2) ?_
              refine lv_iload_n hx hb dX9_sheet_67 rfl (lv_at hl 2 rfl) ?_
              refine lv_iload_n hx hb dX9_sheet_68 rfl (lv_at hl 3 rfl) ?_
              refine kM_v (As := [.int x1, .int x2]) (rest := []) (q0 := 16) ⟨hx, hb, hml, hown, hts⟩ (hv_begin2 l D cy a _ RO x1 x2 ) (cwV 2 hts gX9_sheet_X6_begin rfl rfl rfl (by decide +kernel) ⟨Nat.le_of_ble_eq_true rfl, Nat.le_of_ble_eq_true rfl⟩) hK hN hP hD hS hA rfl rfl rfl hl.1 rfl (Nat.le_of_ble_eq_true rfl) dX9_sheet_69 ⟨Nat.le_of_ble_eq_true rfl, Nat.le_of_ble_eq_true rfl⟩ (fun u H locs hw hP hD hS => ?_)
              obtain ⟨z_40, z_41, z_42, z_43, z_44⟩ := u
              obtain ⟨h1, hsz⟩ := hw
              dsimp only at h1 hsz
              have h5 := h1.symm
              subst h5
              have hP : va_P D vwCl (CW cy a z_40 z_41 z_42 z_43 RO) H := hP
              have hD : va_D A (CW cy a z_40 z_41 z_42 z_43 RO) := hD
              refine lv_aload_n hx hb dX9_sheet_72 rfl (lv_at hl 0 rfl) ?_
              refine va_get (D := D) (ci := 8) (v := .ref (a 1)) (C := RX9) (T := TX9) (N := 11) hx hb hts hi9 hown hK hP 0 rfl rfl 0 (by decide) hw1 (fun _ h9 => h9) rfl dX9_sheet_73 ?_
              refine lv_iload_n hx hb dX9_sheet_76 rfl (lv_at hl 1 rfl) ?_
              refine va_aldq hx hb hK hP 1 4 rfl rfl (within_in4 c_1) dX9_sheet_77 ?_
              refine wtop_v (y := .ref (a 16)) (by rw [hj_29]; exact congrArg va_rf hRO2) ?_
              refine va_get (D := D) (ci := 5) (v := .int (z_41 514)) (C := RX6) (T := TX6) (N := 3) hx hb hts hi6 hown hK hP 16 rfl rfl 2 (by decide) hw2 (fun _ h9 => h9) rfl dX9_sheet_78 ?_
              exact qret_i hx hb hr hlocks (hsz.trans (sheet_ok c_1 (Or.inr (Or.inl c_26)) c_27 c_28).symm) hS dX9_sheet_81
            · refine wtop_v (y := .ref (a 18)) (by rw [hj_29]; exact congrArg va_rf hRO3) ?_
              refine lv_iload_n hx hb dX9_sheet_67 rfl (lv_at hl 2 rfl) ?_
              refine lv_iload_n hx hb dX9_sheet_68 rfl (lv_at hl 3 rfl) ?_
              refine kM_v (As := [.int x1, .int x2]) (rest := []) (q0 := 18) ⟨hx, hb, hml, hown, hts⟩ (hv_begin3 l D cy a _ RO x1 x2 ) (cwV 2 hts gX9_sheet_X6_begin rfl rfl rfl (by decide +kernel) ⟨Nat.le_of_ble_eq_true rfl, Nat.le_of_ble_eq_true rfl⟩) hK hN hP hD hS hA rfl rfl rfl hl.1 rfl (Nat.le_of_ble_eq_true rfl) dX9_sheet_69 ⟨Nat.le_of_ble_eq_true rfl, Nat.le_of_ble_eq_true rfl⟩ (fun u H locs hw hP hD hS => ?_)
              obtain ⟨z_45, z_46, z_47, z_48, z_49⟩ := u
              obtain ⟨h1, hsz⟩ := hw
              dsimp only at h1 hsz
              have h5 := h1.symm
              subst h5
              have hP : va_P D vwCl (CW cy a z_45 z_46 z_47 z_48 RO) H := hP
              have hD : va_D A (CW cy a z_45 z_46 z_47 z_48 RO) := hD
              refine lv_aload_n hx hb dX9_sheet_72 rfl (lv_at hl 0 rfl) ?_
              refine va_get (D := D) (ci := 8) (v := .ref (a 1)) (C := RX9) (T := TX9) (N := 11) hx hb hts hi9 hown hK hP 0 rfl rfl 0 (by decide) hw1 (fun _ h9 => h9) rfl dX9_sheet_73 ?_
              refine lv_iload_n hx hb dX9_sheet_76 rfl (lv_at hl 1 rfl) ?_
              refine va_aldq hx hb hK hP 1 4 rfl rfl (within_in4 c_1) dX9_sheet_77 ?_
              refine wtop_v (y := .ref (a 18)) (by rw [hj_29]; exact congrArg va_rf hRO3) ?_
              refine va_get (D := D) (ci := 5) (v := .int (z_46 578)) (C := RX6) (T := TX6) (N := 3) hx hb hts hi6 hown hK hP 18 rfl rfl 2 (by decide) hw2 (fun _ h9 => h9) rfl dX9_sheet_78 ?_
              exact qret_i hx hb hr hlocks (hsz.trans (sheet_ok c_1 (Or.inr (Or.inl c_26)) c_27 c_28).symm) hS dX9_sheet_81
          · refine lv_aload_n hx hb dX9_sheet_54 rfl (lv_at hl 0 rfl) ?_
            refine lv_ldc (v := (-100001)) hx hb hown hw0 dX9_sheet_55 ?_
            refine kM_i (As := [.int (-100001)]) (rest := []) (q0 := 0) ⟨hx, hb, hml, hown, hts⟩ (c_X9_finding l D cy a _ (fun _ => 0) (fun _ => 0) (va_up (fun _ => none) 100 (some (a 4))) (fun _ _ => 0) RO (-100001) ) (cwV 1 hts gX9_sheet_X9_finding rfl rfl rfl (by decide +kernel) ⟨Nat.le_of_ble_eq_true rfl, Nat.le_of_ble_eq_true rfl⟩) hK hN hP hD hS hA rfl rfl rfl hl.1 rfl (Nat.le_of_ble_eq_true rfl) dX9_sheet_57 ⟨Nat.le_of_ble_eq_true rfl, Nat.le_of_ble_eq_true rfl⟩ (fun r u H locs hw hP hD hS => ?_)
            obtain ⟨rfl, rfl⟩ := hw
            have hP : va_P D vwCl (CW cy a (fun _ => 0) (va_up (fun _ => 0) 10 (0 + 1)) (va_up (fun _ => none) 100 (some (a 4))) (fun _ _ => 0) RO) H := hP
            have hD : va_D A (CW cy a (fun _ => 0) (va_up (fun _ => 0) 10 (0 + 1)) (va_up (fun _ => none) 100 (some (a 4))) (fun _ _ => 0) RO) := hD
            exact qret_i hx hb hr hlocks (by simp_all [a_sheet, i32_nlt]) hS dX9_sheet_60
        · refine lv_aload_n hx hb dX9_sheet_41 rfl (lv_at hl 0 rfl) ?_
          refine lv_ldc (v := (-100003)) hx hb hown hw3 dX9_sheet_42 ?_
          refine kM_i (As := [.int (-100003)]) (rest := []) (q0 := 0) ⟨hx, hb, hml, hown, hts⟩ (c_X9_finding l D cy a _ (fun _ => 0) (fun _ => 0) (va_up (fun _ => none) 100 (some (a 4))) (fun _ _ => 0) RO (-100003) ) (cwV 1 hts gX9_sheet_X9_finding rfl rfl rfl (by decide +kernel) ⟨Nat.le_of_ble_eq_true rfl, Nat.le_of_ble_eq_true rfl⟩) hK hN hP hD hS hA rfl rfl rfl hl.1 rfl (Nat.le_of_ble_eq_true rfl) dX9_sheet_44 ⟨Nat.le_of_ble_eq_true rfl, Nat.le_of_ble_eq_true rfl⟩ (fun r u H locs hw hP hD hS => ?_)
          obtain ⟨rfl, rfl⟩ := hw
          have hP : va_P D vwCl (CW cy a (fun _ => 0) (va_up (fun _ => 0) 10 (0 + 1)) (va_up (fun _ => none) 100 (some (a 4))) (fun _ _ => 0) RO) H := hP
          have hD : va_D A (CW cy a (fun _ => 0) (va_up (fun _ => 0) 10 (0 + 1)) (va_up (fun _ => none) 100 (some (a 4))) (fun _ _ => 0) RO) := hD
          exact qret_i hx hb hr hlocks (by simp_all [a_sheet, i32_nlt]) hS dX9_sheet_47
      · refine lv_iload_n hx hb dX9_sheet_18 rfl (lv_at hl 2 rfl) ?_
        refine lv_bipush (v := 16) hx hb dX9_sheet_19 (by decide) ?_
        refine lv_icmp_eq (tgt := 37) hx hb dX9_sheet_21 (by decide) (fun c_50 => ?_) (fun c_50 => ?_)
        · refine lv_iload_n hx hb dX9_sheet_37 rfl (lv_at hl 3 rfl) ?_
          refine lv_if_ge (tgt := 48) hx hb dX9_sheet_38 (by decide) (fun c_51 => ?_) (fun c_51 => ?_)
          · refine lv_iload_n hx hb dX9_sheet_48 rfl (lv_at hl 3 rfl) ?_
            refine lv_bipush (v := 16) hx hb dX9_sheet_49 (by decide) ?_
            refine lv_icmp_le (tgt := 61) hx hb dX9_sheet_51 (by decide) (fun c_52 => ?_) (fun c_52 => ?_)
            · refine lv_aload_n hx hb dX9_sheet_61 rfl (lv_at hl 0 rfl) ?_
              refine va_get (D := D) (ci := 8) (v := .ref (a 1)) (C := RX9) (T := TX9) (N := 11) hx hb hts hi9 hown hK hP 0 rfl rfl 0 (by decide) hw1 (fun _ h9 => h9) rfl dX9_sheet_62 ?_
              refine lv_iload_n hx hb dX9_sheet_65 rfl (lv_at hl 1 rfl) ?_
              refine va_aldq hx hb hK hP 1 4 rfl rfl (within_in4 c_1) dX9_sheet_66 ?_
              rcases in4 (within_in4 c_1) with hj_53 | hj_53 | hj_53 | hj_53
              · refine wtop_v (y := .ref (a 12)) (by rw [hj_53]; exact congrArg va_rf hRO0) ?_
                refine lv_iload_n hx hb dX9_sheet_67 rfl (lv_at hl 2 rfl) ?_
                refine lv_iload_n hx hb dX9_sheet_68 rfl (lv_at hl 3 rfl) ?_
                refine kM_v (As := [.int x1, .int x2]) (rest := []) (q0 := 12) ⟨hx, hb, hml, hown, hts⟩ (hv_begin0 l D cy a _ RO x1 x2 ) (cwV 2 hts gX9_sheet_X6_begin rfl rfl rfl (by decide +kernel) ⟨Nat.le_of_ble_eq_true rfl, Nat.le_of_ble_eq_true rfl⟩) hK hN hP hD hS hA rfl rfl rfl hl.1 rfl (Nat.le_of_ble_eq_true rfl) dX9_sheet_69 ⟨Nat.le_of_ble_eq_true rfl, Nat.le_of_ble_eq_true rfl⟩ (fun u H locs hw hP hD hS => ?_)
                obtain ⟨z_54, z_55, z_56, z_57, z_58⟩ := u
                obtain ⟨h1, hsz⟩ := hw
                dsimp only at h1 hsz
                have h5 := h1.symm
                subst h5
                have hP : va_P D vwCl (CW cy a z_54 z_55 z_56 z_57 RO) H := hP
                have hD : va_D A (CW cy a z_54 z_55 z_56 z_57 RO) := hD
                refine lv_aload_n hx hb dX9_sheet_72 rfl (lv_at hl 0 rfl) ?_
                refine va_get (D := D) (ci := 8) (v := .ref (a 1)) (C := RX9) (T := TX9) (N := 11) hx hb hts hi9 hown hK hP 0 rfl rfl 0 (by decide) hw1 (fun _ h9 => h9) rfl dX9_sheet_73 ?_
                refine lv_iload_n hx hb dX9_sheet_76 rfl (lv_at hl 1 rfl) ?_
                refine va_aldq hx hb hK hP 1 4 rfl rfl (within_in4 c_1) dX9_sheet_77 ?_
                refine wtop_v (y := .ref (a 12)) (by rw [hj_53]; exact congrArg va_rf hRO0) ?_
                refine va_get (D := D) (ci := 5) (v := .int (z_55 386)) (C := RX6) (T := TX6) (N := 3) hx hb hts hi6 hown hK hP 12 rfl rfl 2 (by decide) hw2 (fun _ h9 => h9) rfl dX9_sheet_78 ?_
                exact qret_i hx hb hr hlocks (hsz.trans (sheet_ok c_1 (Or.inr (Or.inr (Or.inl c_50))) c_51 c_52).symm) hS dX9_sheet_81
              · refine wtop_v (y := .ref (a 14)) (by rw [hj_53]; exact congrArg va_rf hRO1) ?_
                refine lv_iload_n hx hb dX9_sheet_67 rfl (lv_at hl 2 rfl) ?_
                refine lv_iload_n hx hb dX9_sheet_68 rfl (lv_at hl 3 rfl) ?_
                refine kM_v (As := [.int x1, .int x2]) (rest := []) (q0 := 14) ⟨hx, hb, hml, hown, hts⟩ (hv_begin1 l D cy a _ RO x1 x2 ) (cwV 2 hts gX9_sheet_X6_begin rfl rfl rfl (by decide +kernel) ⟨Nat.le_of_ble_eq_true rfl, Nat.le_of_ble_eq_true rfl⟩) hK hN hP hD hS hA rfl rfl rfl hl.1 rfl (Nat.le_of_ble_eq_true rfl) dX9_sheet_69 ⟨Nat.le_of_ble_eq_true rfl, Nat.le_of_ble_eq_true rfl⟩ (fun u H locs hw hP hD hS => ?_)
                obtain ⟨z_59, z_60, z_61, z_62, z_63⟩ := u
                obtain ⟨h1, hsz⟩ := hw
                dsimp only at h1 hsz
                have h5 := h1.symm
                subst h5
                have hP : va_P D vwCl (CW cy a z_59 z_60 z_61 z_62 RO) H := hP
                have hD : va_D A (CW cy a z_59 z_60 z_61 z_62 RO) := hD
                refine lv_aload_n hx hb dX9_sheet_72 rfl (lv_at hl 0 rfl) ?_
                refine va_get (D := D) (ci := 8) (v := .ref (a 1)) (C := RX9) (T := TX9) (N := 11) hx hb hts hi9 hown hK hP 0 rfl rfl 0 (by decide) hw1 (fun _ h9 => h9) rfl dX9_sheet_73 ?_
                refine lv_iload_n hx hb dX9_sheet_76 rfl (lv_at hl 1 rfl) ?_
                refine va_aldq hx hb hK hP 1 4 rfl rfl (within_in4 c_1) dX9_sheet_77 ?_
                refine wtop_v (y := .ref (a 14)) (by rw [hj_53]; exact congrArg va_rf hRO1) ?_
                refine va_get (D := D) (ci := 5) (v := .int (z_60 450)) (C := RX6) (T := TX6) (N := 3) hx hb hts hi6 hown hK hP 14 rfl rfl 2 (by decide) hw2 (fun _ h9 => h9) rfl dX9_sheet_78 ?_
                exact qret_i hx hb hr hlocks (hsz.trans (sheet_ok c_1 (Or.inr (Or.inr (Or.inl c_50))) c_51 c_52).symm) hS dX9_sheet_81
              · refine wtop_v (y := .ref (a 16)) (by rw [hj_53]; exact congrArg va_rf hRO2) ?_
                refine lv_iload_n hx hb dX9_sheet_67 rfl (lv_at hl 2 rfl) ?_
                refine lv_iload_n hx hb dX9_sheet_68 rfl (lv_at hl 3 rfl) ?_
                refine kM_v (As := [.int x1, .int x2]) (rest := []) (q0 := 16) ⟨hx, hb, hml, hown, hts⟩ (hv_begin2 l D cy a _ RO x1 x2 ) (cwV 2 hts gX9_sheet_X6_begin rfl rfl rfl (by decide +kernel) ⟨Nat.le_of_ble_eq_true rfl, Nat.le_of_ble_eq_true rfl⟩) hK hN hP hD hS hA rfl rfl rfl hl.1 rfl (Nat.le_of_ble_eq_true rfl) dX9_sheet_69 ⟨Nat.le_of_ble_eq_true rfl, Nat.le_of_ble_eq_true rfl⟩ (fun u H locs hw hP hD hS => ?_)
                obtain ⟨z_64, z_65, z_66, z_67, z_68⟩ := u
                obtain ⟨h1, hsz⟩ := hw
                dsimp only at h1 hsz
                have h5 := h1.symm
                subst h5
                have hP : va_P D vwCl (CW cy a z_64 z_65 z_66 z_67 RO) H := hP
                have hD : va_D A (CW cy a z_64 z_65 z_66 z_67 RO) := hD
                refine lv_aload_n hx hb dX9_sheet_72 rfl (lv_at hl 0 rfl) ?_
                refine va_get (D := D) (ci := 8) (v := .ref (a 1)) (C := RX9) (T := TX9) (N := 11) hx hb hts hi9 hown hK hP 0 rfl rfl 0 (by decide) hw1 (fun _ h9 => h9) rfl dX9_sheet_73 ?_
                refine lv_iload_n hx hb dX9_sheet_76 rfl (lv_at hl 1 rfl) ?_
                refine va_aldq hx hb hK hP 1 4 rfl rfl (within_in4 c_1) dX9_sheet_77 ?_
                refine wtop_v (y := .ref (a 16)) (by rw [hj_53]; exact congrArg va_rf hRO2) ?_
                refine va_get (D := D) (ci := 5) (v := .int (z_65 514)) (C := RX6) (T := TX6) (N := 3) hx hb hts hi6 hown hK hP 16 rfl rfl 2 (by decide) hw2 (fun _ h9 => h9) rfl dX9_sheet_78 ?_
                exact qret_i hx hb hr hlocks (hsz.trans (sheet_ok c_1 (Or.inr (Or.inr (Or.inl c_50))) c_51 c_52).symm) hS dX9_sheet_81
              · refine wtop_v (y := .ref (a 18)) (by rw [hj_53]; exact congrArg va_rf hRO3) ?_
                refine lv_iload_n hx hb dX9_sheet_67 rfl (lv_at hl 2 rfl) ?_
                refine lv_iload_n hx hb dX9_sheet_68 rfl (lv_at hl 3 rfl) ?_
                refine kM_v (As := [.int x1, .int x2]) (rest := []) (q0 := 18) ⟨hx, hb, hml, hown, hts⟩ (hv_begin3 l D cy a _ RO x1 x2 ) (cwV 2 hts gX9_sheet_X6_begin rfl rfl rfl (by decide +kernel) ⟨Nat.le_of_ble_eq_true rfl, Nat.le_of_ble_eq_true rfl⟩) hK hN hP hD hS hA rfl rfl rfl hl.1 rfl (Nat.le_of_ble_eq_true rfl) dX9_sheet_69 ⟨Nat.le_of_ble_eq_true rfl, Nat.le_of_ble_eq_true rfl⟩ (fun u H locs hw hP hD hS => ?_)
                obtain ⟨z_69, z_70, z_71, z_72, z_73⟩ := u
                obtain ⟨h1, hsz⟩ := hw
                dsimp only at h1 hsz
                have h5 := h1.symm
                subst h5
                have hP : va_P D vwCl (CW cy a z_69 z_70 z_71 z_72 RO) H := hP
                have hD : va_D A (CW cy a z_69 z_70 z_71 z_72 RO) := hD
                refine lv_aload_n hx hb dX9_sheet_72 rfl (lv_at hl 0 rfl) ?_
                refine va_get (D := D) (ci := 8) (v := .ref (a 1)) (C := RX9) (T := TX9) (N := 11) hx hb hts hi9 hown hK hP 0 rfl rfl 0 (by decide) hw1 (fun _ h9 => h9) rfl dX9_sheet_73 ?_
                refine lv_iload_n hx hb dX9_sheet_76 rfl (lv_at hl 1 rfl) ?_
                refine va_aldq hx hb hK hP 1 4 rfl rfl (within_in4 c_1) dX9_sheet_77 ?_
                refine wtop_v (y := .ref (a 18)) (by rw [hj_53]; exact congrArg va_rf hRO3) ?_
                refine va_get (D := D) (ci := 5) (v := .int (z_70 578)) (C := RX6) (T := TX6) (N := 3) hx hb hts hi6 hown hK hP 18 rfl rfl 2 (by decide) hw2 (fun _ h9 => h9) rfl dX9_sheet_78 ?_
                exact qret_i hx hb hr hlocks (hsz.trans (sheet_ok c_1 (Or.inr (Or.inr (Or.inl c_50))) c_51 c_52).symm) hS dX9_sheet_81
            · refine lv_aload_n hx hb dX9_sheet_54 rfl (lv_at hl 0 rfl) ?_
              refine lv_ldc (v := (-100001)) hx hb hown hw0 dX9_sheet_55 ?_
              refine kM_i (As := [.int (-100001)]) (rest := []) (q0 := 0) ⟨hx, hb, hml, hown, hts⟩ (c_X9_finding l D cy a _ (fun _ => 0) (fun _ => 0) (va_up (fun _ => none) 100 (some (a 4))) (fun _ _ => 0) RO (-100001) ) (cwV 1 hts gX9_sheet_X9_finding rfl rfl rfl (by decide +kernel) ⟨Nat.le_of_ble_eq_true rfl, Nat.le_of_ble_eq_true rfl⟩) hK hN hP hD hS hA rfl rfl rfl hl.1 rfl (Nat.le_of_ble_eq_true rfl) dX9_sheet_57 ⟨Nat.le_of_ble_eq_true rfl, Nat.le_of_ble_eq_true rfl⟩ (fun r u H locs hw hP hD hS => ?_)
              obtain ⟨rfl, rfl⟩ := hw
              have hP : va_P D vwCl (CW cy a (fun _ => 0) (va_up (fun _ => 0) 10 (0 + 1)) (va_up (fun _ => none) 100 (some (a 4))) (fun _ _ => 0) RO) H := hP
              have hD : va_D A (CW cy a (fun _ => 0) (va_up (fun _ => 0) 10 (0 + 1)) (va_up (fun _ => none) 100 (some (a 4))) (fun _ _ => 0) RO) := hD
              exact qret_i hx hb hr hlocks (by simp_all [a_sheet, i32_nlt]) hS dX9_sheet_60
          · refine lv_aload_n hx hb dX9_sheet_41 rfl (lv_at hl 0 rfl) ?_
            refine lv_ldc (v := (-100003)) hx hb hown hw3 dX9_sheet_42 ?_
            refine kM_i (As := [.int (-100003)]) (rest := []) (q0 := 0) ⟨hx, hb, hml, hown, hts⟩ (c_X9_finding l D cy a _ (fun _ => 0) (fun _ => 0) (va_up (fun _ => none) 100 (some (a 4))) (fun _ _ => 0) RO (-100003) ) (cwV 1 hts gX9_sheet_X9_finding rfl rfl rfl (by decide +kernel) ⟨Nat.le_of_ble_eq_true rfl, Nat.le_of_ble_eq_true rfl⟩) hK hN hP hD hS hA rfl rfl rfl hl.1 rfl (Nat.le_of_ble_eq_true rfl) dX9_sheet_44 ⟨Nat.le_of_ble_eq_true rfl, Nat.le_of_ble_eq_true rfl⟩ (fun r u H locs hw hP hD hS => ?_)
            obtain ⟨rfl, rfl⟩ := hw
            have hP : va_P D vwCl (CW cy a (fun _ => 0) (va_up (fun _ => 0) 10 (0 + 1)) (va_up (fun _ => none) 100 (some (a 4))) (fun _ _ => 0) RO) H := hP
            have hD : va_D A (CW cy a (fun _ => 0) (va_up (fun _ => 0) 10 (0 + 1)) (va_up (fun _ => none) 100 (some (a 4))) (fun _ _ => 0) RO) := hD
            exact qret_i hx hb hr hlocks (by simp_all [a_sheet, i32_nlt]) hS dX9_sheet_47
        · refine lv_iload_n hx hb dX9_sheet_24 rfl (lv_at hl 2 rfl) ?_
          refine lv_bipush (v := 32) hx hb dX9_sheet_25 (by decide) ?_
          refine lv_icmp_eq (tgt := 37) hx hb dX9_sheet_27 (by decide) (fun c_74 => ?_) (fun c_74 => ?_)
          · refine lv_iload_n hx hb dX9_sheet_37 rfl (lv_at hl 3 rfl) ?_
            refine lv_if_ge (tgt := 48) hx hb dX9_sheet_38 (by decide) (fun c_75 => ?_) (fun c_75 => ?_)
            · refine lv_iload_n hx hb dX9_sheet_48 rfl (lv_at hl 3 rfl) ?_
              refine lv_bipush (v := 16) hx hb dX9_sheet_49 (by decide) ?_
              refine lv_icmp_le (tgt := 61) hx hb dX9_sheet_51 (by decide) (fun c_76 => ?_) (fun c_76 => ?_)
              · refine lv_aload_n hx hb dX9_sheet_61 rfl (lv_at hl 0 rfl) ?_
                refine va_get (D := D) (ci := 8) (v := .ref (a 1)) (C := RX9) (T := TX9) (N := 11) hx hb hts hi9 hown hK hP 0 rfl rfl 0 (by decide) hw1 (fun _ h9 => h9) rfl dX9_sheet_62 ?_
                refine lv_iload_n hx hb dX9_sheet_65 rfl (lv_at hl 1 rfl) ?_
                refine va_aldq hx hb hK hP 1 4 rfl rfl (within_in4 c_1) dX9_sheet_66 ?_
                rcases in4 (within_in4 c_1) with hj_77 | hj_77 | hj_77 | hj_77
                · refine wtop_v (y := .ref (a 12)) (by rw [hj_77]; exact congrArg va_rf hRO0) ?_
                  refine lv_iload_n hx hb dX9_sheet_67 rfl (lv_at hl 2 rfl) ?_
                  refine lv_iload_n hx hb dX9_sheet_68 rfl (lv_at hl 3 rfl) ?_
                  refine kM_v (As := [.int x1, .int x2]) (rest := []) (q0 := 12) ⟨hx, hb, hml, hown, hts⟩ (hv_begin0 l D cy a _ RO x1 x2 ) (cwV 2 hts gX9_sheet_X6_begin rfl rfl rfl (by decide +kernel) ⟨Nat.le_of_ble_eq_true rfl, Nat.le_of_ble_eq_true rfl⟩) hK hN hP hD hS hA rfl rfl rfl hl.1 rfl (Nat.le_of_ble_eq_true rfl) dX9_sheet_69 ⟨Nat.le_of_ble_eq_true rfl, Nat.le_of_ble_eq_true rfl⟩ (fun u H locs hw hP hD hS => ?_)
                  obtain ⟨z_78, z_79, z_80, z_81, z_82⟩ := u
                  obtain ⟨h1, hsz⟩ := hw
                  dsimp only at h1 hsz
                  have h5 := h1.symm
                  subst h5
                  have hP : va_P D vwCl (CW cy a z_78 z_79 z_80 z_81 RO) H := hP
                  have hD : va_D A (CW cy a z_78 z_79 z_80 z_81 RO) := hD
                  refine lv_aload_n hx hb dX9_sheet_72 rfl (lv_at hl 0 rfl) ?_
                  refine va_get (D := D) (ci := 8) (v := .ref (a 1)) (C := RX9) (T := TX9) (N := 11) hx hb hts hi9 hown hK hP 0 rfl rfl 0 (by decide) hw1 (fun _ h9 => h9) rfl dX9_sheet_73 ?_
                  refine lv_iload_n hx hb dX9_sheet_76 rfl (lv_at hl 1 rfl) ?_
                  refine va_aldq hx hb hK hP 1 4 rfl rfl (within_in4 c_1) dX9_sheet_77 ?_
                  refine wtop_v (y := .ref (a 12)) (by rw [hj_77]; exact congrArg va_rf hRO0) ?_
                  refine va_get (D := D) (ci := 5) (v := .int (z_79 386)) (C := RX6) (T := TX6) (N := 3) hx hb hts hi6 hown hK hP 12 rfl rfl 2 (by decide) hw2 (fun _ h9 => h9) rfl dX9_sheet_78 ?_
                  exact qret_i hx hb hr hlocks (hsz.trans (sheet_ok c_1 (Or.inr (Or.inr (Or.inr c_74))) c_75 c_76).symm) hS dX9_sheet_81
                · refine wtop_v (y := .ref (a 14)) (by rw [hj_77]; exact congrArg va_rf hRO1) ?_
                  refine lv_iload_n hx hb dX9_sheet_67 rfl (lv_at hl 2 rfl) ?_
                  refine lv_iload_n hx hb dX9_sheet_68 rfl (lv_at hl 3 rfl) ?_
                  refine kM_v (As := [.int x1, .int x2]) (rest := []) (q0 := 14) ⟨hx, hb, hml, hown, hts⟩ (hv_begin1 l D cy a _ RO x1 x2 ) (cwV 2 hts gX9_sheet_X6_begin rfl rfl rfl (by decide +kernel) ⟨Nat.le_of_ble_eq_true rfl, Nat.le_of_ble_eq_true rfl⟩) hK hN hP hD hS hA rfl rfl rfl hl.1 rfl (Nat.le_of_ble_eq_true rfl) dX9_sheet_69 ⟨Nat.le_of_ble_eq_true rfl, Nat.le_of_ble_eq_true rfl⟩ (fun u H locs hw hP hD hS => ?_)
                  obtain ⟨z_83, z_84, z_85, z_86, z_87⟩ := u
                  obtain ⟨h1, hsz⟩ := hw
                  dsimp only at h1 hsz
                  have h5 := h1.symm
                  subst h5
                  have hP : va_P D vwCl (CW cy a z_83 z_84 z_85 z_86 RO) H := hP
                  have hD : va_D A (CW cy a z_83 z_84 z_85 z_86 RO) := hD
                  refine lv_aload_n hx hb dX9_sheet_72 rfl (lv_at hl 0 rfl) ?_
                  refine va_get (D := D) (ci := 8) (v := .ref (a 1)) (C := RX9) (T := TX9) (N := 11) hx hb hts hi9 hown hK hP 0 rfl rfl 0 (by decide) hw1 (fun _ h9 => h9) rfl dX9_sheet_73 ?_
                  refine lv_iload_n hx hb dX9_sheet_76 rfl (lv_at hl 1 rfl) ?_
                  refine va_aldq hx hb hK hP 1 4 rfl rfl (within_in4 c_1) dX9_sheet_77 ?_
                  refine wtop_v (y := .ref (a 14)) (by rw [hj_77]; exact congrArg va_rf hRO1) ?_
                  refine va_get (D := D) (ci := 5) (v := .int (z_84 450)) (C := RX6) (T := TX6) (N := 3) hx hb hts hi6 hown hK hP 14 rfl rfl 2 (by decide) hw2 (fun _ h9 => h9) rfl dX9_sheet_78 ?_
                  exact qret_i hx hb hr hlocks (hsz.trans (sheet_ok c_1 (Or.inr (Or.inr (Or.inr c_74))) c_75 c_76).symm) hS dX9_sheet_81
                · refine wtop_v (y := .ref (a 16)) (by rw [hj_77]; exact congrArg va_rf hRO2) ?_
                  refine lv_iload_n hx hb dX9_sheet_67 rfl (lv_at hl 2 rfl) ?_
                  refine lv_iload_n hx hb dX9_sheet_68 rfl (lv_at hl 3 rfl) ?_
                  refine kM_v (As := [.int x1, .int x2]) (rest := []) (q0 := 16) ⟨hx, hb, hml, hown, hts⟩ (hv_begin2 l D cy a _ RO x1 x2 ) (cwV 2 hts gX9_sheet_X6_begin rfl rfl rfl (by decide +kernel) ⟨Nat.le_of_ble_eq_true rfl, Nat.le_of_ble_eq_true rfl⟩) hK hN hP hD hS hA rfl rfl rfl hl.1 rfl (Nat.le_of_ble_eq_true rfl) dX9_sheet_69 ⟨Nat.le_of_ble_eq_true rfl, Nat.le_of_ble_eq_true rfl⟩ (fun u H locs hw hP hD hS => ?_)
                  obtain ⟨z_88, z_89, z_90, z_91, z_92⟩ := u
                  obtain ⟨h1, hsz⟩ := hw
                  dsimp only at h1 hsz
                  have h5 := h1.symm
                  subst h5
                  have hP : va_P D vwCl (CW cy a z_88 z_89 z_90 z_91 RO) H := hP
                  have hD : va_D A (CW cy a z_88 z_89 z_90 z_91 RO) := hD
                  refine lv_aload_n hx hb dX9_sheet_72 rfl (lv_at hl 0 rfl) ?_
                  refine va_get (D := D) (ci := 8) (v := .ref (a 1)) (C := RX9) (T := TX9) (N := 11) hx hb hts hi9 hown hK hP 0 rfl rfl 0 (by decide) hw1 (fun _ h9 => h9) rfl dX9_sheet_73 ?_
                  refine lv_iload_n hx hb dX9_sheet_76 rfl (lv_at hl 1 rfl) ?_
                  refine va_aldq hx hb hK hP 1 4 rfl rfl (within_in4 c_1) dX9_sheet_77 ?_
                  refine wtop_v (y := .ref (a 16)) (by rw [hj_77]; exact congrArg va_rf hRO2) ?_
                  refine va_get (D := D) (ci := 5) (v := .int (z_89 514)) (C := RX6) (T := TX6) (N := 3) hx hb hts hi6 hown hK hP 16 rfl rfl 2 (by decide) hw2 (fun _ h9 => h9) rfl dX9_sheet_78 ?_
                  exact qret_i hx hb hr hlocks (hsz.trans (sheet_ok c_1 (Or.inr (Or.inr (Or.inr c_74))) c_75 c_76).symm) hS dX9_sheet_81
                · refine wtop_v (y := .ref (a 18)) (by rw [hj_77]; exact congrArg va_rf hRO3) ?_
                  refine lv_iload_n hx hb dX9_sheet_67 rfl (lv_at hl 2 rfl) ?_
                  refine lv_iload_n hx hb dX9_sheet_68 rfl (lv_at hl 3 rfl) ?_
                  refine kM_v (As := [.int x1, .int x2]) (rest := []) (q0 := 18) ⟨hx, hb, hml, hown, hts⟩ (hv_begin3 l D cy a _ RO x1 x2 ) (cwV 2 hts gX9_sheet_X6_begin rfl rfl rfl (by decide +kernel) ⟨Nat.le_of_ble_eq_true rfl, Nat.le_of_ble_eq_true rfl⟩) hK hN hP hD hS hA rfl rfl rfl hl.1 rfl (Nat.le_of_ble_eq_true rfl) dX9_sheet_69 ⟨Nat.le_of_ble_eq_true rfl, Nat.le_of_ble_eq_true rfl⟩ (fun u H locs hw hP hD hS => ?_)
                  obtain ⟨z_93, z_94, z_95, z_96, z_97⟩ := u
                  obtain ⟨h1, hsz⟩ := hw
                  dsimp only at h1 hsz
                  have h5 := h1.symm
                  subst h5
                  have hP : va_P D vwCl (CW cy a z_93 z_94 z_95 z_96 RO) H := hP
                  have hD : va_D A (CW cy a z_93 z_94 z_95 z_96 RO) := hD
                  refine lv_aload_n hx hb dX9_sheet_72 rfl (lv_at hl 0 rfl) ?_
                  refine va_get (D := D) (ci := 8) (v := .ref (a 1)) (C := RX9) (T := TX9) (N := 11) hx hb hts hi9 hown hK hP 0 rfl rfl 0 (by decide) hw1 (fun _ h9 => h9) rfl dX9_sheet_73 ?_
                  refine lv_iload_n hx hb dX9_sheet_76 rfl (lv_at hl 1 rfl) ?_
                  refine va_aldq hx hb hK hP 1 4 rfl rfl (within_in4 c_1) dX9_sheet_77 ?_
                  refine wtop_v (y := .ref (a 18)) (by rw [hj_77]; exact congrArg va_rf hRO3) ?_
                  refine va_get (D := D) (ci := 5) (v := .int (z_94 578)) (C := RX6) (T := TX6) (N := 3) hx hb hts hi6 hown hK hP 18 rfl rfl 2 (by decide) hw2 (fun _ h9 => h9) rfl dX9_sheet_78 ?_
                  exact qret_i hx hb hr hlocks (hsz.trans (sheet_ok c_1 (Or.inr (Or.inr (Or.inr c_74))) c_75 c_76).symm) hS dX9_sheet_81
              · refine lv_aload_n hx hb dX9_sheet_54 rfl (lv_at hl 0 rfl) ?_
                refine lv_ldc (v := (-100001)) hx hb hown hw0 dX9_sheet_55 ?_
                refine kM_i (As := [.int (-100001)]) (rest := []) (q0 := 0) ⟨hx, hb, hml, hown, hts⟩ (c_X9_finding l D cy a _ (fun _ => 0) (fun _ => 0) (va_up (fun _ => none) 100 (some (a 4))) (fun _ _ => 0) RO (-100001) ) (cwV 1 hts gX9_sheet_X9_finding rfl rfl rfl (by decide +kernel) ⟨Nat.le_of_ble_eq_true rfl, Nat.le_of_ble_eq_true rfl⟩) hK hN hP hD hS hA rfl rfl rfl hl.1 rfl (Nat.le_of_ble_eq_true rfl) dX9_sheet_57 ⟨Nat.le_of_ble_eq_true rfl, Nat.le_of_ble_eq_true rfl⟩ (fun r u H locs hw hP hD hS => ?_)
                obtain ⟨rfl, rfl⟩ := hw
                have hP : va_P D vwCl (CW cy a (fun _ => 0) (va_up (fun _ => 0) 10 (0 + 1)) (va_up (fun _ => none) 100 (some (a 4))) (fun _ _ => 0) RO) H := hP
                have hD : va_D A (CW cy a (fun _ => 0) (va_up (fun _ => 0) 10 (0 + 1)) (va_up (fun _ => none) 100 (some (a 4))) (fun _ _ => 0) RO) := hD
                exact qret_i hx hb hr hlocks (by simp_all [a_sheet, i32_nlt]) hS dX9_sheet_60
            · refine lv_aload_n hx hb dX9_sheet_41 rfl (lv_at hl 0 rfl) ?_
              refine lv_ldc (v := (-100003)) hx hb hown hw3 dX9_sheet_42 ?_
              refine kM_i (As := [.int (-100003)]) (rest := []) (q0 := 0) ⟨hx, hb, hml, hown, hts⟩ (c_X9_finding l D cy a _ (fun _ => 0) (fun _ => 0) (va_up (fun _ => none) 100 (some (a 4))) (fun _ _ => 0) RO (-100003) ) (cwV 1 hts gX9_sheet_X9_finding rfl rfl rfl (by decide +kernel) ⟨Nat.le_of_ble_eq_true rfl, Nat.le_of_ble_eq_true rfl⟩) hK hN hP hD hS hA rfl rfl rfl hl.1 rfl (Nat.le_of_ble_eq_true rfl) dX9_sheet_44 ⟨Nat.le_of_ble_eq_true rfl, Nat.le_of_ble_eq_true rfl⟩ (fun r u H locs hw hP hD hS => ?_)
              obtain ⟨rfl, rfl⟩ := hw
              have hP : va_P D vwCl (CW cy a (fun _ => 0) (va_up (fun _ => 0) 10 (0 + 1)) (va_up (fun _ => none) 100 (some (a 4))) (fun _ _ => 0) RO) H := hP
              have hD : va_D A (CW cy a (fun _ => 0) (va_up (fun _ => 0) 10 (0 + 1)) (va_up (fun _ => none) 100 (some (a 4))) (fun _ _ => 0) RO) := hD
              exact qret_i hx hb hr hlocks (by simp_all [a_sheet, i32_nlt]) hS dX9_sheet_47
          · refine lv_aload_n hx hb dX9_sheet_30 rfl (lv_at hl 0 rfl) ?_
            refine lv_ldc (v := (-100001)) hx hb hown hw0 dX9_sheet_31 ?_
            refine kM_i (As := [.int (-100001)]) (rest := []) (q0 := 0) ⟨hx, hb, hml, hown, hts⟩ (c_X9_finding l D cy a _ (fun _ => 0) (fun _ => 0) (va_up (fun _ => none) 100 (some (a 4))) (fun _ _ => 0) RO (-100001) ) (cwV 1 hts gX9_sheet_X9_finding rfl rfl rfl (by decide +kernel) ⟨Nat.le_of_ble_eq_true rfl, Nat.le_of_ble_eq_true rfl⟩) hK hN hP hD hS hA rfl rfl rfl hl.1 rfl (Nat.le_of_ble_eq_true rfl) dX9_sheet_33 ⟨Nat.le_of_ble_eq_true rfl, Nat.le_of_ble_eq_true rfl⟩ (fun r u H locs hw hP hD hS => ?_)
            obtain ⟨rfl, rfl⟩ := hw
            have hP : va_P D vwCl (CW cy a (fun _ => 0) (va_up (fun _ => 0) 10 (0 + 1)) (va_up (fun _ => none) 100 (some (a 4))) (fun _ _ => 0) RO) H := hP
            have hD : va_D A (CW cy a (fun _ => 0) (va_up (fun _ => 0) 10 (0 + 1)) (va_up (fun _ => none) 100 (some (a 4))) (fun _ _ => 0) RO) := hD
            exact qret_i hx hb hr hlocks (by simp_all [a_sheet, i32_nlt]) hS dX9_sheet_36
theorem dX9_put_0 : decode cX9_put 0 = .ok (.aload_n 0, 1) := by decide +kernel
theorem dX9_put_1 : decode cX9_put 1 = .ok (.iload_n 1, 1) := by decide +kernel
set_option maxRecDepth 20000 in
theorem ggX9_put_X9_isSheet : GoodIn wsX9_put wsX9_isSheet := goodIn_r _ [8, 2, 30, 31, 32, 33, 34, 35, 36, 37, 38, 39, 40] (by decide +kernel) (by decide +kernel)
set_option maxRecDepth 20000 in
theorem gX9_put_X9_isSheet : GoodIn wsX9_put (wsV RX9 279 RX9 yX9_isSheet wsX9_isSheet) := goodIn_app (goodIn_of _ (by decide +kernel)) ggX9_put_X9_isSheet
theorem dX9_put_2 : decode cX9_put 2 = .ok (.invokevirtual 279, 3) := by decide +kernel
theorem dX9_put_5 : decode cX9_put 5 = .ok (.ifCond .ne 10, 3) := by decide +kernel
theorem dX9_put_15 : decode cX9_put 15 = .ok (.aload_n 0, 1) := by decide +kernel
theorem dX9_put_16 : decode cX9_put 16 = .ok (.getfield 9, 3) := by decide +kernel
theorem dX9_put_19 : decode cX9_put 19 = .ok (.iload_n 1, 1) := by decide +kernel
theorem dX9_put_20 : decode cX9_put 20 = .ok (.aaload, 1) := by decide +kernel
theorem dX9_put_21 : decode cX9_put 21 = .ok (.astore 4, 2) := by decide +kernel
theorem dX9_put_23 : decode cX9_put 23 = .ok (.aload 4, 2) := by decide +kernel
set_option maxRecDepth 20000 in
theorem ggX9_put_X6_isMissing : GoodIn wsX9_put wsX6_isMissing := goodIn_r _ [18, 19, 41, 42, 43] (by decide +kernel) (by decide +kernel)
set_option maxRecDepth 20000 in
theorem gX9_put_X6_isMissing : GoodIn wsX9_put (wsV RX9 289 RX6 yX6_isMissing wsX6_isMissing) := goodIn_app (goodIn_of _ (by decide +kernel)) ggX9_put_X6_isMissing
theorem dX9_put_25 : decode cX9_put 25 = .ok (.invokevirtual 289, 3) := by decide +kernel
theorem dX9_put_28 : decode cX9_put 28 = .ok (.ifCond .eq 11, 3) := by decide +kernel
theorem dX9_put_31 : decode cX9_put 31 = .ok (.aload_n 0, 1) := by decide +kernel
theorem dX9_put_32 : decode cX9_put 32 = .ok (.ldc_w 292, 3) := by decide +kernel
set_option maxRecDepth 20000 in
theorem ggX9_put_X9_finding : GoodIn wsX9_put wsX9_finding := goodIn_r _ [12, 13, 30, 31, 32, 33, 34, 35, 36, 37, 38, 39, 40] (by decide +kernel) (by decide +kernel)
set_option maxRecDepth 20000 in
theorem gX9_put_X9_finding : GoodIn wsX9_put (wsV RX9 44 RX9 yX9_finding wsX9_finding) := goodIn_app (goodIn_of _ (by decide +kernel)) ggX9_put_X9_finding
theorem dX9_put_35 : decode cX9_put 35 = .ok (.invokevirtual 44, 3) := by decide +kernel
theorem dX9_put_38 : decode cX9_put 38 = .ok (.ireturn, 1) := by decide +kernel
theorem dX9_put_8 : decode cX9_put 8 = .ok (.aload_n 0, 1) := by decide +kernel
theorem dX9_put_9 : decode cX9_put 9 = .ok (.ldc 43, 2) := by decide +kernel
theorem dX9_put_11 : decode cX9_put 11 = .ok (.invokevirtual 44, 3) := by decide +kernel
theorem dX9_put_14 : decode cX9_put 14 = .ok (.ireturn, 1) := by decide +kernel
set_option maxRecDepth 20000 in
theorem ihX9_put_9 : ∀ w ∈ u_ws RX9 TX9 11, w ∈ wsX9_put := by decide +kernel
set_option maxHeartbeats 4000000 in
set_option maxRecDepth 100000 in
theorem xp_X9_put (l : Launch) (D : va_G) (cy : Nat → ClassId) (a : Nat → Nat) (sz : Nat) (RO : Nat → Nat → Option Nat) (x0 : Int32) (x1 : Int32) (x2 : Int32) (hRO0 : RO 1 0 = some (a 12)) (hRO1 : RO 1 1 = some (a 14)) (hRO2 : RO 1 2 = some (a 16)) (hRO3 : RO 1 3 = some (a 18)) : Met l yX9_put wsX9_put ({ frames := 1, cells := 0, slots := 0, locals := 21 }) (va_Pc [.ref (a 0), .int x0, .int x1, .int x2] (PW D cy sz (CW cy a (fun _ => 0) (fun _ => 0) (va_up (fun _ => none) 100 (some (a 4))) (fun _ _ => 0) RO))) (va_Qi (fun r (_ : Unit) => r = a_put x0) (fun _ _ => True) (va_A (CW cy a (fun _ => 0) (fun _ => 0) (va_up (fun _ => none) 100 (some (a 4))) (fun _ _ => 0) RO) sz)) 0 0 (va_A (CW cy a (fun _ => 0) (fun _ => 0) (va_up (fun _ => none) 100 (some (a 4))) (fun _ _ => 0) RO) sz) := by
  refine Met.ofW (cc := cX9_put) (maxL := 5) (ret := (some .int)) (by decide) rfl ?_
  intro p e s m args below meth c s₁ B hml hv
  obtain ⟨rfl, rfl, hP, hK, hN, hD0⟩ := hv
  have hx := B.exec
  have hb := B.bytes
  have hr := B.returns
  have hts := atoms_spec (ws := wsX9_put) B.pre
  have hown : s.vm.findClass RX9 = some m.cls := findClass_of_methodNamed B.named
  have hlocks := B.notSynchronized
  have hw0 := hts (.fieldLink RX9 9 "ParquetLayer" "sheets" "[LParquetLayer$Sheet;") (by decide +kernel)
  have hw1 := hts (.constant RX9 292 (-100002)) (by decide +kernel)
  have hw2 := hts (.constant RX9 43 (-100001)) (by decide +kernel)
  have hi9 := ihX9_put_9
  have hD := hD0.self (sz := s.heap.size)
  generalize hAe : va_A (CW cy a (fun _ => 0) (fun _ => 0) (va_up (fun _ => none) 100 (some (a 4))) (fun _ _ => 0) RO) s.heap.size = A at hD ⊢
  have hA : ∀ q : Nat, s.heap.size ≤ q → A q := fun q h => by rw [← hAe]; exact Or.inr h
  have hS : va_S A s.heap s.heap [] := va_S.rf
  have hl := lv_entry ([.ref (a 0), .int x0, .int x1, .int x2]) (n := 5) (Nat.le_of_ble_eq_true rfl)
  rw [lg_entry_eq]
  generalize (lg_sl ([.ref (a 0), .int x0, .int x1, .int x2]) ++ List.replicate (5 - (lg_sl ([.ref (a 0), .int x0, .int x1, .int x2])).length) Slot.unset).toArray = ls at hl ⊢
  have hl : lv_has ls 5 [(0, .ref (a 0)), (1, .int x0), (2, .int x1), (3, .int x2)] := hl
  refine lv_aload_n hx hb dX9_put_0 rfl (lv_at hl 0 rfl) ?_
  refine lv_iload_n hx hb dX9_put_1 rfl (lv_at hl 1 rfl) ?_
  refine kR_i (As := [.int x0]) (rest := []) (q0 := 0) ⟨hx, hb, hml, hown, hts⟩ (c_X9_isSheet l D cy a _ RO x0 ) (cwV 1 hts gX9_put_X9_isSheet rfl rfl rfl (by decide +kernel) ⟨Nat.le_of_ble_eq_true rfl, Nat.le_of_ble_eq_true rfl⟩) hK hN hP hD rfl rfl rfl hl.1 rfl (Nat.le_of_ble_eq_true rfl) dX9_put_2 ⟨Nat.le_of_ble_eq_true rfl, Nat.le_of_ble_eq_true rfl⟩ ?_
  refine lv_if_ne (tgt := 15) hx hb dX9_put_5 (by decide) (fun c_1 => ?_) (fun c_1 => ?_)
  · replace c_1 := bI_t c_1
    refine lv_aload_n hx hb dX9_put_15 rfl (lv_at hl 0 rfl) ?_
    refine va_get (D := D) (ci := 8) (v := .ref (a 1)) (C := RX9) (T := TX9) (N := 11) hx hb hts hi9 hown hK hP 0 rfl rfl 0 (by decide) hw0 (fun _ h9 => h9) rfl dX9_put_16 ?_
    refine lv_iload_n hx hb dX9_put_19 rfl (lv_at hl 1 rfl) ?_
    refine va_aldq hx hb hK hP 1 4 rfl rfl (within_in4 c_1) dX9_put_20 ?_
    rcases in4 (within_in4 c_1) with hj_2 | hj_2 | hj_2 | hj_2
    · refine wtop_v (y := .ref (a 12)) (by rw [hj_2]; exact congrArg va_rf hRO0) ?_
      refine lv_astore (lv' := [(4, .ref (a 12)), (0, .ref (a 0)), (1, .int x0), (2, .int x1), (3, .int x2)]) hx hb dX9_put_21 hl (by decide) rfl (fun ls hl => ?_)
      refine lv_aload hx hb dX9_put_23 (lv_at hl 0 rfl) ?_
      refine kR_i (As := []) (rest := []) (q0 := 12) ⟨hx, hb, hml, hown, hts⟩ (c_isMissing0 l D cy a _ RO  ) (cwV 0 hts gX9_put_X6_isMissing rfl rfl rfl (by decide +kernel) ⟨Nat.le_of_ble_eq_true rfl, Nat.le_of_ble_eq_true rfl⟩) hK hN hP hD rfl rfl rfl hl.1 rfl (Nat.le_of_ble_eq_true rfl) dX9_put_25 ⟨Nat.le_of_ble_eq_true rfl, Nat.le_of_ble_eq_true rfl⟩ ?_
      refine lv_if_eq (tgt := 39) hx hb dX9_put_28 (by decide) (fun c_3 => absurd c_3 (by decide)) (fun c_3 => ?_)
      refine lv_aload_n hx hb dX9_put_31 rfl (lv_at hl 1 rfl) ?_
      refine lv_ldcw (v := (-100002)) hx hb hown hw1 dX9_put_32 ?_
      refine kM_i (As := [.int (-100002)]) (rest := []) (q0 := 0) ⟨hx, hb, hml, hown, hts⟩ (c_X9_finding l D cy a _ (fun _ => 0) (fun _ => 0) (va_up (fun _ => none) 100 (some (a 4))) (fun _ _ => 0) RO (-100002) ) (cwV 1 hts gX9_put_X9_finding rfl rfl rfl (by decide +kernel) ⟨Nat.le_of_ble_eq_true rfl, Nat.le_of_ble_eq_true rfl⟩) hK hN hP hD hS hA rfl rfl rfl hl.1 rfl (Nat.le_of_ble_eq_true rfl) dX9_put_35 ⟨Nat.le_of_ble_eq_true rfl, Nat.le_of_ble_eq_true rfl⟩ (fun r u H locs hw hP hD hS => ?_)
      obtain ⟨rfl, rfl⟩ := hw
      have hP : va_P D vwCl (CW cy a (fun _ => 0) (va_up (fun _ => 0) 10 (0 + 1)) (va_up (fun _ => none) 100 (some (a 4))) (fun _ _ => 0) RO) H := hP
      have hD : va_D A (CW cy a (fun _ => 0) (va_up (fun _ => 0) 10 (0 + 1)) (va_up (fun _ => none) 100 (some (a 4))) (fun _ _ => 0) RO) := hD
      exact qret_i hx hb hr hlocks (by simp [a_put, c_1]) hS dX9_put_38
    · refine wtop_v (y := .ref (a 14)) (by rw [hj_2]; exact congrArg va_rf hRO1) ?_
      refine lv_astore (lv' := [(4, .ref (a 14)), (0, .ref (a 0)), (1, .int x0), (2, .int x1), (3, .int x2)]) hx hb dX9_put_21 hl (by decide) rfl (fun ls hl => ?_)
      refine lv_aload hx hb dX9_put_23 (lv_at hl 0 rfl) ?_
      refine kR_i (As := []) (rest := []) (q0 := 14) ⟨hx, hb, hml, hown, hts⟩ (c_isMissing1 l D cy a _ RO  ) (cwV 0 hts gX9_put_X6_isMissing rfl rfl rfl (by decide +kernel) ⟨Nat.le_of_ble_eq_true rfl, Nat.le_of_ble_eq_true rfl⟩) hK hN hP hD rfl rfl rfl hl.1 rfl (Nat.le_of_ble_eq_true rfl) dX9_put_25 ⟨Nat.le_of_ble_eq_true rfl, Nat.le_of_ble_eq_true rfl⟩ ?_
      refine lv_if_eq (tgt := 39) hx hb dX9_put_28 (by decide) (fun c_4 => absurd c_4 (by decide)) (fun c_4 => ?_)
      refine lv_aload_n hx hb dX9_put_31 rfl (lv_at hl 1 rfl) ?_
      refine lv_ldcw (v := (-100002)) hx hb hown hw1 dX9_put_32 ?_
      refine kM_i (As := [.int (-100002)]) (rest := []) (q0 := 0) ⟨hx, hb, hml, hown, hts⟩ (c_X9_finding l D cy a _ (fun _ => 0) (fun _ => 0) (va_up (fun _ => none) 100 (some (a 4))) (fun _ _ => 0) RO (-100002) ) (cwV 1 hts gX9_put_X9_finding rfl rfl rfl (by decide +kernel) ⟨Nat.le_of_ble_eq_true rfl, Nat.le_of_ble_eq_true rfl⟩) hK hN hP hD hS hA rfl rfl rfl hl.1 rfl (Nat.le_of_ble_eq_true rfl) dX9_put_35 ⟨Nat.le_of_ble_eq_true rfl, Nat.le_of_ble_eq_true rfl⟩ (fun r u H locs hw hP hD hS => ?_)
      obtain ⟨rfl, rfl⟩ := hw
      have hP : va_P D vwCl (CW cy a (fun _ => 0) (va_up (fun _ => 0) 10 (0 + 1)) (va_up (fun _ => none) 100 (some (a 4))) (fun _ _ => 0) RO) H := hP
      have hD : va_D A (CW cy a (fun _ => 0) (va_up (fun _ => 0) 10 (0 + 1)) (va_up (fun _ => none) 100 (some (a 4))) (fun _ _ => 0) RO) := hD
      exact qret_i hx hb hr hlocks (by simp [a_put, c_1]) hS dX9_put_38
    · refine wtop_v (y := .ref (a 16)) (by rw [hj_2]; exact congrArg va_rf hRO2) ?_
      refine lv_astore (lv' := [(4, .ref (a 16)), (0, .ref (a 0)), (1, .int x0), (2, .int x1), (3, .int x2)]) hx hb dX9_put_21 hl (by decide) rfl (fun ls hl => ?_)
      refine lv_aload hx hb dX9_put_23 (lv_at hl 0 rfl) ?_
      refine kR_i (As := []) (rest := []) (q0 := 16) ⟨hx, hb, hml, hown, hts⟩ (c_isMissing2 l D cy a _ RO  ) (cwV 0 hts gX9_put_X6_isMissing rfl rfl rfl (by decide +kernel) ⟨Nat.le_of_ble_eq_true rfl, Nat.le_of_ble_eq_true rfl⟩) hK hN hP hD rfl rfl rfl hl.1 rfl (Nat.le_of_ble_eq_true rfl) dX9_put_25 ⟨Nat.le_of_ble_eq_true rfl, Nat.le_of_ble_eq_true rfl⟩ ?_
      refine lv_if_eq (tgt := 39) hx hb dX9_put_28 (by decide) (fun c_5 => absurd c_5 (by decide)) (fun c_5 => ?_)
      refine lv_aload_n hx hb dX9_put_31 rfl (lv_at hl 1 rfl) ?_
      refine lv_ldcw (v := (-100002)) hx hb hown hw1 dX9_put_32 ?_
      refine kM_i (As := [.int (-100002)]) (rest := []) (q0 := 0) ⟨hx, hb, hml, hown, hts⟩ (c_X9_finding l D cy a _ (fun _ => 0) (fun _ => 0) (va_up (fun _ => none) 100 (some (a 4))) (fun _ _ => 0) RO (-100002) ) (cwV 1 hts gX9_put_X9_finding rfl rfl rfl (by decide +kernel) ⟨Nat.le_of_ble_eq_true rfl, Nat.le_of_ble_eq_true rfl⟩) hK hN hP hD hS hA rfl rfl rfl hl.1 rfl (Nat.le_of_ble_eq_true rfl) dX9_put_35 ⟨Nat.le_of_ble_eq_true rfl, Nat.le_of_ble_eq_true rfl⟩ (fun r u H locs hw hP hD hS => ?_)
      obtain ⟨rfl, rfl⟩ := hw
      have hP : va_P D vwCl (CW cy a (fun _ => 0) (va_up (fun _ => 0) 10 (0 + 1)) (va_up (fun _ => none) 100 (some (a 4))) (fun _ _ => 0) RO) H := hP
      have hD : va_D A (CW cy a (fun _ => 0) (va_up (fun _ => 0) 10 (0 + 1)) (va_up (fun _ => none) 100 (some (a 4))) (fun _ _ => 0) RO) := hD
      exact qret_i hx hb hr hlocks (by simp [a_put, c_1]) hS dX9_put_38
    · refine wtop_v (y := .ref (a 18)) (by rw [hj_2]; exact congrArg va_rf hRO3) ?_
      refine lv_astore (lv' := [(4, .ref (a 18)), (0, .ref (a 0)), (1, .int x0), (2, .int x1), (3, .int x2)]) hx hb dX9_put_21 hl (by decide) rfl (fun ls hl => ?_)
      refine lv_aload hx hb dX9_put_23 (lv_at hl 0 rfl) ?_
      refine kR_i (As := []) (rest := []) (q0 := 18) ⟨hx, hb, hml, hown, hts⟩ (c_isMissing3 l D cy a _ RO  ) (cwV 0 hts gX9_put_X6_isMissing rfl rfl rfl (by decide +kernel) ⟨Nat.le_of_ble_eq_true rfl, Nat.le_of_ble_eq_true rfl⟩) hK hN hP hD rfl rfl rfl hl.1 rfl (Nat.le_of_ble_eq_true rfl) dX9_put_25 ⟨Nat.le_of_ble_eq_true rfl, Nat.le_of_ble_eq_true rfl⟩ ?_
      refine lv_if_eq (tgt := 39) hx hb dX9_put_28 (by decide) (fun c_6 => absurd c_6 (by decide)) (fun c_6 => ?_)
      refine lv_aload_n hx hb dX9_put_31 rfl (lv_at hl 1 rfl) ?_
      refine lv_ldcw (v := (-100002)) hx hb hown hw1 dX9_put_32 ?_
      refine kM_i (As := [.int (-100002)]) (rest := []) (q0 := 0) ⟨hx, hb, hml, hown, hts⟩ (c_X9_finding l D cy a _ (fun _ => 0) (fun _ => 0) (va_up (fun _ => none) 100 (some (a 4))) (fun _ _ => 0) RO (-100002) ) (cwV 1 hts gX9_put_X9_finding rfl rfl rfl (by decide +kernel) ⟨Nat.le_of_ble_eq_true rfl, Nat.le_of_ble_eq_true rfl⟩) hK hN hP hD hS hA rfl rfl rfl hl.1 rfl (Nat.le_of_ble_eq_true rfl) dX9_put_35 ⟨Nat.le_of_ble_eq_true rfl, Nat.le_of_ble_eq_true rfl⟩ (fun r u H locs hw hP hD hS => ?_)
      obtain ⟨rfl, rfl⟩ := hw
      have hP : va_P D vwCl (CW cy a (fun _ => 0) (va_up (fun _ => 0) 10 (0 + 1)) (va_up (fun _ => none) 100 (some (a 4))) (fun _ _ => 0) RO) H := hP
      have hD : va_D A (CW cy a (fun _ => 0) (va_up (fun _ => 0) 10 (0 + 1)) (va_up (fun _ => none) 100 (some (a 4))) (fun _ _ => 0) RO) := hD
      exact qret_i hx hb hr hlocks (by simp [a_put, c_1]) hS dX9_put_38
  · replace c_1 := bI_f c_1
    refine lv_aload_n hx hb dX9_put_8 rfl (lv_at hl 0 rfl) ?_
    refine lv_ldc (v := (-100001)) hx hb hown hw2 dX9_put_9 ?_
    refine kM_i (As := [.int (-100001)]) (rest := []) (q0 := 0) ⟨hx, hb, hml, hown, hts⟩ (c_X9_finding l D cy a _ (fun _ => 0) (fun _ => 0) (va_up (fun _ => none) 100 (some (a 4))) (fun _ _ => 0) RO (-100001) ) (cwV 1 hts gX9_put_X9_finding rfl rfl rfl (by decide +kernel) ⟨Nat.le_of_ble_eq_true rfl, Nat.le_of_ble_eq_true rfl⟩) hK hN hP hD hS hA rfl rfl rfl hl.1 rfl (Nat.le_of_ble_eq_true rfl) dX9_put_11 ⟨Nat.le_of_ble_eq_true rfl, Nat.le_of_ble_eq_true rfl⟩ (fun r u H locs hw hP hD hS => ?_)
    obtain ⟨rfl, rfl⟩ := hw
    have hP : va_P D vwCl (CW cy a (fun _ => 0) (va_up (fun _ => 0) 10 (0 + 1)) (va_up (fun _ => none) 100 (some (a 4))) (fun _ _ => 0) RO) H := hP
    have hD : va_D A (CW cy a (fun _ => 0) (va_up (fun _ => 0) 10 (0 + 1)) (va_up (fun _ => none) 100 (some (a 4))) (fun _ _ => 0) RO) := hD
    exact qret_i hx hb hr hlocks (by simp [a_put, c_1]) hS dX9_put_14
theorem dX9_copy_0 : decode cX9_copy 0 = .ok (.aload_n 0, 1) := by decide +kernel
theorem dX9_copy_1 : decode cX9_copy 1 = .ok (.iload_n 1, 1) := by decide +kernel
set_option maxRecDepth 20000 in
theorem ggX9_copy_X9_isSheet : GoodIn wsX9_copy wsX9_isSheet := goodIn_r _ [15, 2, 32, 33, 34, 35, 36, 37, 38, 39, 40, 41, 42] (by decide +kernel) (by decide +kernel)
set_option maxRecDepth 20000 in
theorem gX9_copy_X9_isSheet : GoodIn wsX9_copy (wsV RX9 279 RX9 yX9_isSheet wsX9_isSheet) := goodIn_app (goodIn_of _ (by decide +kernel)) ggX9_copy_X9_isSheet
theorem dX9_copy_2 : decode cX9_copy 2 = .ok (.invokevirtual 279, 3) := by decide +kernel
theorem dX9_copy_5 : decode cX9_copy 5 = .ok (.ifCond .eq 11, 3) := by decide +kernel
theorem dX9_copy_16 : decode cX9_copy 16 = .ok (.aload_n 0, 1) := by decide +kernel
theorem dX9_copy_17 : decode cX9_copy 17 = .ok (.ldc 43, 2) := by decide +kernel
set_option maxRecDepth 20000 in
theorem ggX9_copy_X9_finding : GoodIn wsX9_copy wsX9_finding := goodIn_r _ [19, 20, 32, 33, 34, 35, 36, 37, 38, 39, 40, 41, 42] (by decide +kernel) (by decide +kernel)
set_option maxRecDepth 20000 in
theorem gX9_copy_X9_finding : GoodIn wsX9_copy (wsV RX9 44 RX9 yX9_finding wsX9_finding) := goodIn_app (goodIn_of _ (by decide +kernel)) ggX9_copy_X9_finding
theorem dX9_copy_19 : decode cX9_copy 19 = .ok (.invokevirtual 44, 3) := by decide +kernel
theorem dX9_copy_22 : decode cX9_copy 22 = .ok (.ireturn, 1) := by decide +kernel
theorem dX9_copy_8 : decode cX9_copy 8 = .ok (.aload_n 0, 1) := by decide +kernel
theorem dX9_copy_9 : decode cX9_copy 9 = .ok (.iload_n 3, 1) := by decide +kernel
theorem dX9_copy_10 : decode cX9_copy 10 = .ok (.invokevirtual 279, 3) := by decide +kernel
theorem dX9_copy_13 : decode cX9_copy 13 = .ok (.ifCond .ne 10, 3) := by decide +kernel
theorem dX9_copy_23 : decode cX9_copy 23 = .ok (.aload_n 0, 1) := by decide +kernel
theorem dX9_copy_24 : decode cX9_copy 24 = .ok (.getfield 9, 3) := by decide +kernel
theorem dX9_copy_27 : decode cX9_copy 27 = .ok (.iload_n 1, 1) := by decide +kernel
theorem dX9_copy_28 : decode cX9_copy 28 = .ok (.aaload, 1) := by decide +kernel
theorem dX9_copy_29 : decode cX9_copy 29 = .ok (.astore 6, 2) := by decide +kernel
theorem dX9_copy_31 : decode cX9_copy 31 = .ok (.aload_n 0, 1) := by decide +kernel
theorem dX9_copy_32 : decode cX9_copy 32 = .ok (.getfield 9, 3) := by decide +kernel
theorem dX9_copy_35 : decode cX9_copy 35 = .ok (.iload_n 3, 1) := by decide +kernel
theorem dX9_copy_36 : decode cX9_copy 36 = .ok (.aaload, 1) := by decide +kernel
theorem dX9_copy_37 : decode cX9_copy 37 = .ok (.astore 7, 2) := by decide +kernel
theorem dX9_copy_39 : decode cX9_copy 39 = .ok (.aload 6, 2) := by decide +kernel
set_option maxRecDepth 20000 in
theorem ggX9_copy_X6_isMissing : GoodIn wsX9_copy wsX6_isMissing := goodIn_r _ [25, 26, 43, 44, 45] (by decide +kernel) (by decide +kernel)
set_option maxRecDepth 20000 in
theorem gX9_copy_X6_isMissing : GoodIn wsX9_copy (wsV RX9 289 RX6 yX6_isMissing wsX6_isMissing) := goodIn_app (goodIn_of _ (by decide +kernel)) ggX9_copy_X6_isMissing
theorem dX9_copy_41 : decode cX9_copy 41 = .ok (.invokevirtual 289, 3) := by decide +kernel
theorem dX9_copy_44 : decode cX9_copy 44 = .ok (.ifCond .ne 11, 3) := by decide +kernel
theorem dX9_copy_55 : decode cX9_copy 55 = .ok (.aload_n 0, 1) := by decide +kernel
theorem dX9_copy_56 : decode cX9_copy 56 = .ok (.ldc_w 292, 3) := by decide +kernel
theorem dX9_copy_59 : decode cX9_copy 59 = .ok (.invokevirtual 44, 3) := by decide +kernel
theorem dX9_copy_62 : decode cX9_copy 62 = .ok (.ireturn, 1) := by decide +kernel
set_option maxRecDepth 20000 in
theorem ihX9_copy_9 : ∀ w ∈ u_ws RX9 TX9 11, w ∈ wsX9_copy := by decide +kernel
set_option maxHeartbeats 4000000 in
set_option maxRecDepth 100000 in
theorem xp_X9_copy (l : Launch) (D : va_G) (cy : Nat → ClassId) (a : Nat → Nat) (sz : Nat) (RO : Nat → Nat → Option Nat) (x0 : Int32) (x1 : Int32) (x2 : Int32) (x3 : Int32) (x4 : Int32) (hRO0 : RO 1 0 = some (a 12)) (hRO1 : RO 1 1 = some (a 14)) (hRO2 : RO 1 2 = some (a 16)) (hRO3 : RO 1 3 = some (a 18)) : Met l yX9_copy wsX9_copy ({ frames := 1, cells := 0, slots := 0, locals := 21 }) (va_Pc [.ref (a 0), .int x0, .int x1, .int x2, .int x3, .int x4] (PW D cy sz (CW cy a (fun _ => 0) (fun _ => 0) (va_up (fun _ => none) 100 (some (a 4))) (fun _ _ => 0) RO))) (va_Qi (fun r (_ : Unit) => r = a_copy x0 x2) (fun _ _ => True) (va_A (CW cy a (fun _ => 0) (fun _ => 0) (va_up (fun _ => none) 100 (some (a 4))) (fun _ _ => 0) RO) sz)) 0 0 (va_A (CW cy a (fun _ => 0) (fun _ => 0) (va_up (fun _ => none) 100 (some (a 4))) (fun _ _ => 0) RO) sz) := by
  refine Met.ofW (cc := cX9_copy) (maxL := 8) (ret := (some .int)) (by decide) rfl ?_
  intro p e s m args below meth c s₁ B hml hv
  obtain ⟨rfl, rfl, hP, hK, hN, hD0⟩ := hv
  have hx := B.exec
  have hb := B.bytes
  have hr := B.returns
  have hts := atoms_spec (ws := wsX9_copy) B.pre
  have hown : s.vm.findClass RX9 = some m.cls := findClass_of_methodNamed B.named
  have hlocks := B.notSynchronized
  have hw0 := hts (.constant RX9 43 (-100001)) (by decide +kernel)
  have hw1 := hts (.fieldLink RX9 9 "ParquetLayer" "sheets" "[LParquetLayer$Sheet;") (by decide +kernel)
  have hw2 := hts (.constant RX9 292 (-100002)) (by decide +kernel)
  have hi9 := ihX9_copy_9
  have hD := hD0.self (sz := s.heap.size)
  generalize hAe : va_A (CW cy a (fun _ => 0) (fun _ => 0) (va_up (fun _ => none) 100 (some (a 4))) (fun _ _ => 0) RO) s.heap.size = A at hD ⊢
  have hA : ∀ q : Nat, s.heap.size ≤ q → A q := fun q h => by rw [← hAe]; exact Or.inr h
  have hS : va_S A s.heap s.heap [] := va_S.rf
  have hl := lv_entry ([.ref (a 0), .int x0, .int x1, .int x2, .int x3, .int x4]) (n := 8) (Nat.le_of_ble_eq_true rfl)
  rw [lg_entry_eq]
  generalize (lg_sl ([.ref (a 0), .int x0, .int x1, .int x2, .int x3, .int x4]) ++ List.replicate (8 - (lg_sl ([.ref (a 0), .int x0, .int x1, .int x2, .int x3, .int x4])).length) Slot.unset).toArray = ls at hl ⊢
  have hl : lv_has ls 8 [(0, .ref (a 0)), (1, .int x0), (2, .int x1), (3, .int x2), (4, .int x3), (5, .int x4)] := hl
  refine lv_aload_n hx hb dX9_copy_0 rfl (lv_at hl 0 rfl) ?_
  refine lv_iload_n hx hb dX9_copy_1 rfl (lv_at hl 1 rfl) ?_
  refine kR_i (As := [.int x0]) (rest := []) (q0 := 0) ⟨hx, hb, hml, hown, hts⟩ (c_X9_isSheet l D cy a _ RO x0 ) (cwV 1 hts gX9_copy_X9_isSheet rfl rfl rfl (by decide +kernel) ⟨Nat.le_of_ble_eq_true rfl, Nat.le_of_ble_eq_true rfl⟩) hK hN hP hD rfl rfl rfl hl.1 rfl (Nat.le_of_ble_eq_true rfl) dX9_copy_2 ⟨Nat.le_of_ble_eq_true rfl, Nat.le_of_ble_eq_true rfl⟩ ?_
  refine lv_if_eq (tgt := 16) hx hb dX9_copy_5 (by decide) (fun c_1 => ?_) (fun c_1 => ?_)
  · replace c_1 := bI_f c_1
    refine lv_aload_n hx hb dX9_copy_16 rfl (lv_at hl 0 rfl) ?_
    refine lv_ldc (v := (-100001)) hx hb hown hw0 dX9_copy_17 ?_
    refine kM_i (As := [.int (-100001)]) (rest := []) (q0 := 0) ⟨hx, hb, hml, hown, hts⟩ (c_X9_finding l D cy a _ (fun _ => 0) (fun _ => 0) (va_up (fun _ => none) 100 (some (a 4))) (fun _ _ => 0) RO (-100001) ) (cwV 1 hts gX9_copy_X9_finding rfl rfl rfl (by decide +kernel) ⟨Nat.le_of_ble_eq_true rfl, Nat.le_of_ble_eq_true rfl⟩) hK hN hP hD hS hA rfl rfl rfl hl.1 rfl (Nat.le_of_ble_eq_true rfl) dX9_copy_19 ⟨Nat.le_of_ble_eq_true rfl, Nat.le_of_ble_eq_true rfl⟩ (fun r u H locs hw hP hD hS => ?_)
    obtain ⟨rfl, rfl⟩ := hw
    have hP : va_P D vwCl (CW cy a (fun _ => 0) (va_up (fun _ => 0) 10 (0 + 1)) (va_up (fun _ => none) 100 (some (a 4))) (fun _ _ => 0) RO) H := hP
    have hD : va_D A (CW cy a (fun _ => 0) (va_up (fun _ => 0) 10 (0 + 1)) (va_up (fun _ => none) 100 (some (a 4))) (fun _ _ => 0) RO) := hD
    exact qret_i hx hb hr hlocks (by simp_all [a_copy]) hS dX9_copy_22
  · replace c_1 := bI_t c_1
    refine lv_aload_n hx hb dX9_copy_8 rfl (lv_at hl 0 rfl) ?_
    refine lv_iload_n hx hb dX9_copy_9 rfl (lv_at hl 3 rfl) ?_
    refine kR_i (As := [.int x2]) (rest := []) (q0 := 0) ⟨hx, hb, hml, hown, hts⟩ (c_X9_isSheet l D cy a _ RO x2 ) (cwV 1 hts gX9_copy_X9_isSheet rfl rfl rfl (by decide +kernel) ⟨Nat.le_of_ble_eq_true rfl, Nat.le_of_ble_eq_true rfl⟩) hK hN hP hD rfl rfl rfl hl.1 rfl (Nat.le_of_ble_eq_true rfl) dX9_copy_10 ⟨Nat.le_of_ble_eq_true rfl, Nat.le_of_ble_eq_true rfl⟩ ?_
    refine lv_if_ne (tgt := 23) hx hb dX9_copy_13 (by decide) (fun c_2 => ?_) (fun c_2 => ?_)
    · replace c_2 := bI_t c_2
      refine lv_aload_n hx hb dX9_copy_23 rfl (lv_at hl 0 rfl) ?_
      refine va_get (D := D) (ci := 8) (v := .ref (a 1)) (C := RX9) (T := TX9) (N := 11) hx hb hts hi9 hown hK hP 0 rfl rfl 0 (by decide) hw1 (fun _ h9 => h9) rfl dX9_copy_24 ?_
      refine lv_iload_n hx hb dX9_copy_27 rfl (lv_at hl 1 rfl) ?_
      refine va_aldq hx hb hK hP 1 4 rfl rfl (within_in4 c_1) dX9_copy_28 ?_
      rcases in4 (within_in4 c_1) with hj_3 | hj_3 | hj_3 | hj_3
      · refine wtop_v (y := .ref (a 12)) (by rw [hj_3]; exact congrArg va_rf hRO0) ?_
        refine lv_astore (lv' := [(6, .ref (a 12)), (0, .ref (a 0)), (1, .int x0), (2, .int x1), (3, .int x2), (4, .int x3), (5, .int x4)]) hx hb dX9_copy_29 hl (by decide) rfl (fun ls hl => ?_)
        refine lv_aload_n hx hb dX9_copy_31 rfl (lv_at hl 1 rfl) ?_
        refine va_get (D := D) (ci := 8) (v := .ref (a 1)) (C := RX9) (T := TX9) (N := 11) hx hb hts hi9 hown hK hP 0 rfl rfl 0 (by decide) hw1 (fun _ h9 => h9) rfl dX9_copy_32 ?_
        refine lv_iload_n hx hb dX9_copy_35 rfl (lv_at hl 4 rfl) ?_
        refine va_aldq hx hb hK hP 1 4 rfl rfl (within_in4 c_2) dX9_copy_36 ?_
        rcases in4 (within_in4 c_2) with hj_4 | hj_4 | hj_4 | hj_4
        · refine wtop_v (y := .ref (a 12)) (by rw [hj_4]; exact congrArg va_rf hRO0) ?_
          refine lv_astore (lv' := [(7, .ref (a 12)), (6, .ref (a 12)), (0, .ref (a 0)), (1, .int x0), (2, .int x1), (3, .int x2), (4, .int x3), (5, .int x4)]) hx hb dX9_copy_37 hl (by decide) rfl (fun ls hl => ?_)
          refine lv_aload hx hb dX9_copy_39 (lv_at hl 1 rfl) ?_
          refine kR_i (As := []) (rest := []) (q0 := 12) ⟨hx, hb, hml, hown, hts⟩ (c_isMissing0 l D cy a _ RO  ) (cwV 0 hts gX9_copy_X6_isMissing rfl rfl rfl (by decide +kernel) ⟨Nat.le_of_ble_eq_true rfl, Nat.le_of_ble_eq_true rfl⟩) hK hN hP hD rfl rfl rfl hl.1 rfl (Nat.le_of_ble_eq_true rfl) dX9_copy_41 ⟨Nat.le_of_ble_eq_true rfl, Nat.le_of_ble_eq_true rfl⟩ ?_
          refine lv_if_ne (tgt := 55) hx hb dX9_copy_44 (by decide) (fun c_5 => ?_) (fun c_5 => absurd c_5 (by decide))
          refine lv_aload_n hx hb dX9_copy_55 rfl (lv_at hl 2 rfl) ?_
          refine lv_ldcw (v := (-100002)) hx hb hown hw2 dX9_copy_56 ?_
          refine kM_i (As := [.int (-100002)]) (rest := []) (q0 := 0) ⟨hx, hb, hml, hown, hts⟩ (c_X9_finding l D cy a _ (fun _ => 0) (fun _ => 0) (va_up (fun _ => none) 100 (some (a 4))) (fun _ _ => 0) RO (-100002) ) (cwV 1 hts gX9_copy_X9_finding rfl rfl rfl (by decide +kernel) ⟨Nat.le_of_ble_eq_true rfl, Nat.le_of_ble_eq_true rfl⟩) hK hN hP hD hS hA rfl rfl rfl hl.1 rfl (Nat.le_of_ble_eq_true rfl) dX9_copy_59 ⟨Nat.le_of_ble_eq_true rfl, Nat.le_of_ble_eq_true rfl⟩ (fun r u H locs hw hP hD hS => ?_)
          obtain ⟨rfl, rfl⟩ := hw
          have hP : va_P D vwCl (CW cy a (fun _ => 0) (va_up (fun _ => 0) 10 (0 + 1)) (va_up (fun _ => none) 100 (some (a 4))) (fun _ _ => 0) RO) H := hP
          have hD : va_D A (CW cy a (fun _ => 0) (va_up (fun _ => 0) 10 (0 + 1)) (va_up (fun _ => none) 100 (some (a 4))) (fun _ _ => 0) RO) := hD
          exact qret_i hx hb hr hlocks (by simp_all [a_copy]) hS dX9_copy_62
        · refine wtop_v (y := .ref (a 14)) (by rw [hj_4]; exact congrArg va_rf hRO1) ?_
          refine lv_astore (lv' := [(7, .ref (a 14)), (6, .ref (a 12)), (0, .ref (a 0)), (1, .int x0), (2, .int x1), (3, .int x2), (4, .int x3), (5, .int x4)]) hx hb dX9_copy_37 hl (by decide) rfl (fun ls hl => ?_)
          refine lv_aload hx hb dX9_copy_39 (lv_at hl 1 rfl) ?_
          refine kR_i (As := []) (rest := []) (q0 := 12) ⟨hx, hb, hml, hown, hts⟩ (c_isMissing0 l D cy a _ RO  ) (cwV 0 hts gX9_copy_X6_isMissing rfl rfl rfl (by decide +kernel) ⟨Nat.le_of_ble_eq_true rfl, Nat.le_of_ble_eq_true rfl⟩) hK hN hP hD rfl rfl rfl hl.1 rfl (Nat.le_of_ble_eq_true rfl) dX9_copy_41 ⟨Nat.le_of_ble_eq_true rfl, Nat.le_of_ble_eq_true rfl⟩ ?_
          refine lv_if_ne (tgt := 55) hx hb dX9_copy_44 (by decide) (fun c_6 => ?_) (fun c_6 => absurd c_6 (by decide))
          refine lv_aload_n hx hb dX9_copy_55 rfl (lv_at hl 2 rfl) ?_
          refine lv_ldcw (v := (-100002)) hx hb hown hw2 dX9_copy_56 ?_
          refine kM_i (As := [.int (-100002)]) (rest := []) (q0 := 0) ⟨hx, hb, hml, hown, hts⟩ (c_X9_finding l D cy a _ (fun _ => 0) (fun _ => 0) (va_up (fun _ => none) 100 (some (a 4))) (fun _ _ => 0) RO (-100002) ) (cwV 1 hts gX9_copy_X9_finding rfl rfl rfl (by decide +kernel) ⟨Nat.le_of_ble_eq_true rfl, Nat.le_of_ble_eq_true rfl⟩) hK hN hP hD hS hA rfl rfl rfl hl.1 rfl (Nat.le_of_ble_eq_true rfl) dX9_copy_59 ⟨Nat.le_of_ble_eq_true rfl, Nat.le_of_ble_eq_true rfl⟩ (fun r u H locs hw hP hD hS => ?_)
          obtain ⟨rfl, rfl⟩ := hw
          have hP : va_P D vwCl (CW cy a (fun _ => 0) (va_up (fun _ => 0) 10 (0 + 1)) (va_up (fun _ => none) 100 (some (a 4))) (fun _ _ => 0) RO) H := hP
          have hD : va_D A (CW cy a (fun _ => 0) (va_up (fun _ => 0) 10 (0 + 1)) (va_up (fun _ => none) 100 (some (a 4))) (fun _ _ => 0) RO) := hD
          exact qret_i hx hb hr hlocks (by simp_all [a_copy]) hS dX9_copy_62
        · refine wtop_v (y := .ref (a 16)) (by rw [hj_4]; exact congrArg va_rf hRO2) ?_
          refine lv_astore (lv' := [(7, .ref (a 16)), (6, .ref (a 12)), (0, .ref (a 0)), (1, .int x0), (2, .int x1), (3, .int x2), (4, .int x3), (5, .int x4)]) hx hb dX9_copy_37 hl (by decide) rfl (fun ls hl => ?_)
          refine lv_aload hx hb dX9_copy_39 (lv_at hl 1 rfl) ?_
          refine kR_i (As := []) (rest := []) (q0 := 12) ⟨hx, hb, hml, hown, hts⟩ (c_isMissing0 l D cy a _ RO  ) (cwV 0 hts gX9_copy_X6_isMissing rfl rfl rfl (by decide +kernel) ⟨Nat.le_of_ble_eq_true rfl, Nat.le_of_ble_eq_true rfl⟩) hK hN hP hD rfl rfl rfl hl.1 rfl (Nat.le_of_ble_eq_true rfl) dX9_copy_41 ⟨Nat.le_of_ble_eq_true rfl, Nat.le_of_ble_eq_true rfl⟩ ?_
          refine lv_if_ne (tgt := 55) hx hb dX9_copy_44 (by decide) (fun c_7 => ?_) (fun c_7 => absurd c_7 (by decide))
          refine lv_aload_n hx hb dX9_copy_55 rfl (lv_at hl 2 rfl) ?_
          refine lv_ldcw (v := (-100002)) hx hb hown hw2 dX9_copy_56 ?_
          refine kM_i (As := [.int (-100002)]) (rest := []) (q0 := 0) ⟨hx, hb, hml, hown, hts⟩ (c_X9_finding l D cy a _ (fun _ => 0) (fun _ => 0) (va_up (fun _ => none) 100 (some (a 4))) (fun _ _ => 0) RO (-100002) ) (cwV 1 hts gX9_copy_X9_finding rfl rfl rfl (by decide +kernel) ⟨Nat.le_of_ble_eq_true rfl, Nat.le_of_ble_eq_true rfl⟩) hK hN hP hD hS hA rfl rfl rfl hl.1 rfl (Nat.le_of_ble_eq_true rfl) dX9_copy_59 ⟨Nat.le_of_ble_eq_true rfl, Nat.le_of_ble_eq_true rfl⟩ (fun r u H locs hw hP hD hS => ?_)
          obtain ⟨rfl, rfl⟩ := hw
          have hP : va_P D vwCl (CW cy a (fun _ => 0) (va_up (fun _ => 0) 10 (0 + 1)) (va_up (fun _ => none) 100 (some (a 4))) (fun _ _ => 0) RO) H := hP
          have hD : va_D A (CW cy a (fun _ => 0) (va_up (fun _ => 0) 10 (0 + 1)) (va_up (fun _ => none) 100 (some (a 4))) (fun _ _ => 0) RO) := hD
          exact qret_i hx hb hr hlocks (by simp_all [a_copy]) hS dX9_copy_62
        · refine wtop_v (y := .ref (a 18)) (by rw [hj_4]; exact congrArg va_rf hRO3) ?_
          refine lv_astore (lv' := [(7, .ref (a 18)), (6, .ref (a 12)), (0, .ref (a 0)), (1, .int x0), (2, .int x1), (3, .int x2), (4, .int x3), (5, .int x4)]) hx hb dX9_copy_37 hl (by decide) rfl (fun ls hl => ?_)
          refine lv_aload hx hb dX9_copy_39 (lv_at hl 1 rfl) ?_
          refine kR_i (As := []) (rest := []) (q0 := 12) ⟨hx, hb, hml, hown, hts⟩ (c_isMissing0 l D cy a _ RO  ) (cwV 0 hts gX9_copy_X6_isMissing rfl rfl rfl (by decide +kernel) ⟨Nat.le_of_ble_eq_true rfl, Nat.le_of_ble_eq_true rfl⟩) hK hN hP hD rfl rfl rfl hl.1 rfl (Nat.le_of_ble_eq_true rfl) dX9_copy_41 ⟨Nat.le_of_ble_eq_true rfl, Nat.le_of_ble_eq_true rfl⟩ ?_
          refine lv_if_ne (tgt := 55) hx hb dX9_copy_44 (by decide) (fun c_8 => ?_) (fun c_8 => absurd c_8 (by decide))
          refine lv_aload_n hx hb dX9_copy_55 rfl (lv_at hl 2 rfl) ?_
          refine lv_ldcw (v := (-100002)) hx hb hown hw2 dX9_copy_56 ?_
          refine kM_i (As := [.int (-100002)]) (rest := []) (q0 := 0) ⟨hx, hb, hml, hown, hts⟩ (c_X9_finding l D cy a _ (fun _ => 0) (fun _ => 0) (va_up (fun _ => none) 100 (some (a 4))) (fun _ _ => 0) RO (-100002) ) (cwV 1 hts gX9_copy_X9_finding rfl rfl rfl (by decide +kernel) ⟨Nat.le_of_ble_eq_true rfl, Nat.le_of_ble_eq_true rfl⟩) hK hN hP hD hS hA rfl rfl rfl hl.1 rfl (Nat.le_of_ble_eq_true rfl) dX9_copy_59 ⟨Nat.le_of_ble_eq_true rfl, Nat.le_of_ble_eq_true rfl⟩ (fun r u H locs hw hP hD hS => ?_)
          obtain ⟨rfl, rfl⟩ := hw
          have hP : va_P D vwCl (CW cy a (fun _ => 0) (va_up (fun _ => 0) 10 (0 + 1)) (va_up (fun _ => none) 100 (some (a 4))) (fun _ _ => 0) RO) H := hP
          have hD : va_D A (CW cy a (fun _ => 0) (va_up (fun _ => 0) 10 (0 + 1)) (va_up (fun _ => none) 100 (some (a 4))) (fun _ _ => 0) RO) := hD
          exact qret_i hx hb hr hlocks (by simp_all [a_copy]) hS dX9_copy_62
      · refine wtop_v (y := .ref (a 14)) (by rw [hj_3]; exact congrArg va_rf hRO1) ?_
        refine lv_astore (lv' := [(6, .ref (a 14)), (0, .ref (a 0)), (1, .int x0), (2, .int x1), (3, .int x2), (4, .int x3), (5, .int x4)]) hx hb dX9_copy_29 hl (by decide) rfl (fun ls hl => ?_)
        refine lv_aload_n hx hb dX9_copy_31 rfl (lv_at hl 1 rfl) ?_
        refine va_get (D := D) (ci := 8) (v := .ref (a 1)) (C := RX9) (T := TX9) (N := 11) hx hb hts hi9 hown hK hP 0 rfl rfl 0 (by decide) hw1 (fun _ h9 => h9) rfl dX9_copy_32 ?_
        refine lv_iload_n hx hb dX9_copy_35 rfl (lv_at hl 4 rfl) ?_
        refine va_aldq hx hb hK hP 1 4 rfl rfl (within_in4 c_2) dX9_copy_36 ?_
        rcases in4 (within_in4 c_2) with hj_9 | hj_9 | hj_9 | hj_9
        · refine wtop_v (y := .ref (a 12)) (by rw [hj_9]; exact congrArg va_rf hRO0) ?_
          refine lv_astore (lv' := [(7, .ref (a 12)), (6, .ref (a 14)), (0, .ref (a 0)), (1, .int x0), (2, .int x1), (3, .int x2), (4, .int x3), (5, .int x4)]) hx hb dX9_copy_37 hl (by decide) rfl (fun ls hl => ?_)
          refine lv_aload hx hb dX9_copy_39 (lv_at hl 1 rfl) ?_
          refine kR_i (As := []) (rest := []) (q0 := 14) ⟨hx, hb, hml, hown, hts⟩ (c_isMissing1 l D cy a _ RO  ) (cwV 0 hts gX9_copy_X6_isMissing rfl rfl rfl (by decide +kernel) ⟨Nat.le_of_ble_eq_true rfl, Nat.le_of_ble_eq_true rfl⟩) hK hN hP hD rfl rfl rfl hl.1 rfl (Nat.le_of_ble_eq_true rfl) dX9_copy_41 ⟨Nat.le_of_ble_eq_true rfl, Nat.le_of_ble_eq_true rfl⟩ ?_
          refine lv_if_ne (tgt := 55) hx hb dX9_copy_44 (by decide) (fun c_10 => ?_) (fun c_10 => absurd c_10 (by decide))
          refine lv_aload_n hx hb dX9_copy_55 rfl (lv_at hl 2 rfl) ?_
          refine lv_ldcw (v := (-100002)) hx hb hown hw2 dX9_copy_56 ?_
          refine kM_i (As := [.int (-100002)]) (rest := []) (q0 := 0) ⟨hx, hb, hml, hown, hts⟩ (c_X9_finding l D cy a _ (fun _ => 0) (fun _ => 0) (va_up (fun _ => none) 100 (some (a 4))) (fun _ _ => 0) RO (-100002) ) (cwV 1 hts gX9_copy_X9_finding rfl rfl rfl (by decide +kernel) ⟨Nat.le_of_ble_eq_true rfl, Nat.le_of_ble_eq_true rfl⟩) hK hN hP hD hS hA rfl rfl rfl hl.1 rfl (Nat.le_of_ble_eq_true rfl) dX9_copy_59 ⟨Nat.le_of_ble_eq_true rfl, Nat.le_of_ble_eq_true rfl⟩ (fun r u H locs hw hP hD hS => ?_)
          obtain ⟨rfl, rfl⟩ := hw
          have hP : va_P D vwCl (CW cy a (fun _ => 0) (va_up (fun _ => 0) 10 (0 + 1)) (va_up (fun _ => none) 100 (some (a 4))) (fun _ _ => 0) RO) H := hP
          have hD : va_D A (CW cy a (fun _ => 0) (va_up (fun _ => 0) 10 (0 + 1)) (va_up (fun _ => none) 100 (some (a 4))) (fun _ _ => 0) RO) := hD
          exact qret_i hx hb hr hlocks (by simp_all [a_copy]) hS dX9_copy_62
        · refine wtop_v (y := .ref (a 14)) (by rw [hj_9]; exact congrArg va_rf hRO1) ?_
          refine lv_astore (lv' := [(7, .ref (a 14)), (6, .ref (a 14)), (0, .ref (a 0)), (1, .int x0), (2, .int x1), (3, .int x2), (4, .int x3), (5, .int x4)]) hx hb dX9_copy_37 hl (by decide) rfl (fun ls hl => ?_)
          refine lv_aload hx hb dX9_copy_39 (lv_at hl 1 rfl) ?_
          refine kR_i (As := []) (rest := []) (q0 := 14) ⟨hx, hb, hml, hown, hts⟩ (c_isMissing1 l D cy a _ RO  ) (cwV 0 hts gX9_copy_X6_isMissing rfl rfl rfl (by decide +kernel) ⟨Nat.le_of_ble_eq_true rfl, Nat.le_of_ble_eq_true rfl⟩) hK hN hP hD rfl rfl rfl hl.1 rfl (Nat.le_of_ble_eq_true rfl) dX9_copy_41 ⟨Nat.le_of_ble_eq_true rfl, Nat.le_of_ble_eq_true rfl⟩ ?_
          refine lv_if_ne (tgt := 55) hx hb dX9_copy_44 (by decide) (fun c_11 => ?_) (fun c_11 => absurd c_11 (by decide))
          refine lv_aload_n hx hb dX9_copy_55 rfl (lv_at hl 2 rfl) ?_
          refine lv_ldcw (v := (-100002)) hx hb hown hw2 dX9_copy_56 ?_
          refine kM_i (As := [.int (-100002)]) (rest := []) (q0 := 0) ⟨hx, hb, hml, hown, hts⟩ (c_X9_finding l D cy a _ (fun _ => 0) (fun _ => 0) (va_up (fun _ => none) 100 (some (a 4))) (fun _ _ => 0) RO (-100002) ) (cwV 1 hts gX9_copy_X9_finding rfl rfl rfl (by decide +kernel) ⟨Nat.le_of_ble_eq_true rfl, Nat.le_of_ble_eq_true rfl⟩) hK hN hP hD hS hA rfl rfl rfl hl.1 rfl (Nat.le_of_ble_eq_true rfl) dX9_copy_59 ⟨Nat.le_of_ble_eq_true rfl, Nat.le_of_ble_eq_true rfl⟩ (fun r u H locs hw hP hD hS => ?_)
          obtain ⟨rfl, rfl⟩ := hw
          have hP : va_P D vwCl (CW cy a (fun _ => 0) (va_up (fun _ => 0) 10 (0 + 1)) (va_up (fun _ => none) 100 (some (a 4))) (fun _ _ => 0) RO) H := hP
          have hD : va_D A (CW cy a (fun _ => 0) (va_up (fun _ => 0) 10 (0 + 1)) (va_up (fun _ => none) 100 (some (a 4))) (fun _ _ => 0) RO) := hD
          exact qret_i hx hb hr hlocks (by simp_all [a_copy]) hS dX9_copy_62
        · refine wtop_v (y := .ref (a 16)) (by rw [hj_9]; exact congrArg va_rf hRO2) ?_
          refine lv_astore (lv' := [(7, .ref (a 16)), (6, .ref (a 14)), (0, .ref (a 0)), (1, .int x0), (2, .int x1), (3, .int x2), (4, .int x3), (5, .int x4)]) hx hb dX9_copy_37 hl (by decide) rfl (fun ls hl => ?_)
          refine lv_aload hx hb dX9_copy_39 (lv_at hl 1 rfl) ?_
          refine kR_i (As := []) (rest := []) (q0 := 14) ⟨hx, hb, hml, hown, hts⟩ (c_isMissing1 l D cy a _ RO  ) (cwV 0 hts gX9_copy_X6_isMissing rfl rfl rfl (by decide +kernel) ⟨Nat.le_of_ble_eq_true rfl, Nat.le_of_ble_eq_true rfl⟩) hK hN hP hD rfl rfl rfl hl.1 rfl (Nat.le_of_ble_eq_true rfl) dX9_copy_41 ⟨Nat.le_of_ble_eq_true rfl, Nat.le_of_ble_eq_true rfl⟩ ?_
          refine lv_if_ne (tgt := 55) hx hb dX9_copy_44 (by decide) (fun c_12 => ?_) (fun c_12 => absurd c_12 (by decide))
          refine lv_aload_n hx hb dX9_copy_55 rfl (lv_at hl 2 rfl) ?_
          refine lv_ldcw (v := (-100002)) hx hb hown hw2 dX9_copy_56 ?_
          refine kM_i (As := [.int (-100002)]) (rest := []) (q0 := 0) ⟨hx, hb, hml, hown, hts⟩ (c_X9_finding l D cy a _ (fun _ => 0) (fun _ => 0) (va_up (fun _ => none) 100 (some (a 4))) (fun _ _ => 0) RO (-100002) ) (cwV 1 hts gX9_copy_X9_finding rfl rfl rfl (by decide +kernel) ⟨Nat.le_of_ble_eq_true rfl, Nat.le_of_ble_eq_true rfl⟩) hK hN hP hD hS hA rfl rfl rfl hl.1 rfl (Nat.le_of_ble_eq_true rfl) dX9_copy_59 ⟨Nat.le_of_ble_eq_true rfl, Nat.le_of_ble_eq_true rfl⟩ (fun r u H locs hw hP hD hS => ?_)
          obtain ⟨rfl, rfl⟩ := hw
          have hP : va_P D vwCl (CW cy a (fun _ => 0) (va_up (fun _ => 0) 10 (0 + 1)) (va_up (fun _ => none) 100 (some (a 4))) (fun _ _ => 0) RO) H := hP
          have hD : va_D A (CW cy a (fun _ => 0) (va_up (fun _ => 0) 10 (0 + 1)) (va_up (fun _ => none) 100 (some (a 4))) (fun _ _ => 0) RO) := hD
          exact qret_i hx hb hr hlocks (by simp_all [a_copy]) hS dX9_copy_62
        · refine wtop_v (y := .ref (a 18)) (by rw [hj_9]; exact congrArg va_rf hRO3) ?_
          refine lv_astore (lv' := [(7, .ref (a 18)), (6, .ref (a 14)), (0, .ref (a 0)), (1, .int x0), (2, .int x1), (3, .int x2), (4, .int x3), (5, .int x4)]) hx hb dX9_copy_37 hl (by decide) rfl (fun ls hl => ?_)
          refine lv_aload hx hb dX9_copy_39 (lv_at hl 1 rfl) ?_
          refine kR_i (As := []) (rest := []) (q0 := 14) ⟨hx, hb, hml, hown, hts⟩ (c_isMissing1 l D cy a _ RO  ) (cwV 0 hts gX9_copy_X6_isMissing rfl rfl rfl (by decide +kernel) ⟨Nat.le_of_ble_eq_true rfl, Nat.le_of_ble_eq_true rfl⟩) hK hN hP hD rfl rfl rfl hl.1 rfl (Nat.le_of_ble_eq_true rfl) dX9_copy_41 ⟨Nat.le_of_ble_eq_true rfl, Nat.le_of_ble_eq_true rfl⟩ ?_
          refine lv_if_ne (tgt := 55) hx hb dX9_copy_44 (by decide) (fun c_13 => ?_) (fun c_13 => absurd c_13 (by decide))
          refine lv_aload_n hx hb dX9_copy_55 rfl (lv_at hl 2 rfl) ?_
          refine lv_ldcw (v := (-100002)) hx hb hown hw2 dX9_copy_56 ?_
          refine kM_i (As := [.int (-100002)]) (rest := []) (q0 := 0) ⟨hx, hb, hml, hown, hts⟩ (c_X9_finding l D cy a _ (fun _ => 0) (fun _ => 0) (va_up (fun _ => none) 100 (some (a 4))) (fun _ _ => 0) RO (-100002) ) (cwV 1 hts gX9_copy_X9_finding rfl rfl rfl (by decide +kernel) ⟨Nat.le_of_ble_eq_true rfl, Nat.le_of_ble_eq_true rfl⟩) hK hN hP hD hS hA rfl rfl rfl hl.1 rfl (Nat.le_of_ble_eq_true rfl) dX9_copy_59 ⟨Nat.le_of_ble_eq_true rfl, Nat.le_of_ble_eq_true rfl⟩ (fun r u H locs hw hP hD hS => ?_)
          obtain ⟨rfl, rfl⟩ := hw
          have hP : va_P D vwCl (CW cy a (fun _ => 0) (va_up (fun _ => 0) 10 (0 + 1)) (va_up (fun _ => none) 100 (some (a 4))) (fun _ _ => 0) RO) H := hP
          have hD : va_D A (CW cy a (fun _ => 0) (va_up (fun _ => 0) 10 (0 + 1)) (va_up (fun _ => none) 100 (some (a 4))) (fun _ _ => 0) RO) := hD
          exact qret_i hx hb hr hlocks (by simp_all [a_copy]) hS dX9_copy_62
      · refine wtop_v (y := .ref (a 16)) (by rw [hj_3]; exact congrArg va_rf hRO2) ?_
        refine lv_astore (lv' := [(6, .ref (a 16)), (0, .ref (a 0)), (1, .int x0), (2, .int x1), (3, .int x2), (4, .int x3), (5, .int x4)]) hx hb dX9_copy_29 hl (by decide) rfl (fun ls hl => ?_)
        refine lv_aload_n hx hb dX9_copy_31 rfl (lv_at hl 1 rfl) ?_
        refine va_get (D := D) (ci := 8) (v := .ref (a 1)) (C := RX9) (T := TX9) (N := 11) hx hb hts hi9 hown hK hP 0 rfl rfl 0 (by decide) hw1 (fun _ h9 => h9) rfl dX9_copy_32 ?_
        refine lv_iload_n hx hb dX9_copy_35 rfl (lv_at hl 4 rfl) ?_
        refine va_aldq hx hb hK hP 1 4 rfl rfl (within_in4 c_2) dX9_copy_36 ?_
        rcases in4 (within_in4 c_2) with hj_14 | hj_14 | hj_14 | hj_14
        · refine wtop_v (y := .ref (a 12)) (by rw [hj_14]; exact congrArg va_rf hRO0) ?_
          refine lv_astore (lv' := [(7, .ref (a 12)), (6, .ref (a 16)), (0, .ref (a 0)), (1, .int x0), (2, .int x1), (3, .int x2), (4, .int x3), (5, .int x4)]) hx hb dX9_copy_37 hl (by decide) rfl (fun ls hl => ?_)
          refine lv_aload hx hb dX9_copy_39 (lv_at hl 1 rfl) ?_
          refine kR_i (As := []) (rest := []) (q0 := 16) ⟨hx, hb, hml, hown, hts⟩ (c_isMissing2 l D cy a _ RO  ) (cwV 0 hts gX9_copy_X6_isMissing rfl rfl rfl (by decide +kernel) ⟨Nat.le_of_ble_eq_true rfl, Nat.le_of_ble_eq_true rfl⟩) hK hN hP hD rfl rfl rfl hl.1 rfl (Nat.le_of_ble_eq_true rfl) dX9_copy_41 ⟨Nat.le_of_ble_eq_true rfl, Nat.le_of_ble_eq_true rfl⟩ ?_
          refine lv_if_ne (tgt := 55) hx hb dX9_copy_44 (by decide) (fun c_15 => ?_) (fun c_15 => absurd c_15 (by decide))
          refine lv_aload_n hx hb dX9_copy_55 rfl (lv_at hl 2 rfl) ?_
          refine lv_ldcw (v := (-100002)) hx hb hown hw2 dX9_copy_56 ?_
          refine kM_i (As := [.int (-100002)]) (rest := []) (q0 := 0) ⟨hx, hb, hml, hown, hts⟩ (c_X9_finding l D cy a _ (fun _ => 0) (fun _ => 0) (va_up (fun _ => none) 100 (some (a 4))) (fun _ _ => 0) RO (-100002) ) (cwV 1 hts gX9_copy_X9_finding rfl rfl rfl (by decide +kernel) ⟨Nat.le_of_ble_eq_true rfl, Nat.le_of_ble_eq_true rfl⟩) hK hN hP hD hS hA rfl rfl rfl hl.1 rfl (Nat.le_of_ble_eq_true rfl) dX9_copy_59 ⟨Nat.le_of_ble_eq_true rfl, Nat.le_of_ble_eq_true rfl⟩ (fun r u H locs hw hP hD hS => ?_)
          obtain ⟨rfl, rfl⟩ := hw
          have hP : va_P D vwCl (CW cy a (fun _ => 0) (va_up (fun _ => 0) 10 (0 + 1)) (va_up (fun _ => none) 100 (some (a 4))) (fun _ _ => 0) RO) H := hP
          have hD : va_D A (CW cy a (fun _ => 0) (va_up (fun _ => 0) 10 (0 + 1)) (va_up (fun _ => none) 100 (some (a 4))) (fun _ _ => 0) RO) := hD
          exact qret_i hx hb hr hlocks (by simp_all [a_copy]) hS dX9_copy_62
        · refine wtop_v (y := .ref (a 14)) (by rw [hj_14]; exact congrArg va_rf hRO1) ?_
          refine lv_astore (lv' := [(7, .ref (a 14)), (6, .ref (a 16)), (0, .ref (a 0)), (1, .int x0), (2, .int x1), (3, .int x2), (4, .int x3), (5, .int x4)]) hx hb dX9_copy_37 hl (by decide) rfl (fun ls hl => ?_)
          refine lv_aload hx hb dX9_copy_39 (lv_at hl 1 rfl) ?_
          refine kR_i (As := []) (rest := []) (q0 := 16) ⟨hx, hb, hml, hown, hts⟩ (c_isMissing2 l D cy a _ RO  ) (cwV 0 hts gX9_copy_X6_isMissing rfl rfl rfl (by decide +kernel) ⟨Nat.le_of_ble_eq_true rfl, Nat.le_of_ble_eq_true rfl⟩) hK hN hP hD rfl rfl rfl hl.1 rfl (Nat.le_of_ble_eq_true rfl) dX9_copy_41 ⟨Nat.le_of_ble_eq_true rfl, Nat.le_of_ble_eq_true rfl⟩ ?_
          refine lv_if_ne (tgt := 55) hx hb dX9_copy_44 (by decide) (fun c_16 => ?_) (fun c_16 => absurd c_16 (by decide))
          refine lv_aload_n hx hb dX9_copy_55 rfl (lv_at hl 2 rfl) ?_
          refine lv_ldcw (v := (-100002)) hx hb hown hw2 dX9_copy_56 ?_
          refine kM_i (As := [.int (-100002)]) (rest := []) (q0 := 0) ⟨hx, hb, hml, hown, hts⟩ (c_X9_finding l D cy a _ (fun _ => 0) (fun _ => 0) (va_up (fun _ => none) 100 (some (a 4))) (fun _ _ => 0) RO (-100002) ) (cwV 1 hts gX9_copy_X9_finding rfl rfl rfl (by decide +kernel) ⟨Nat.le_of_ble_eq_true rfl, Nat.le_of_ble_eq_true rfl⟩) hK hN hP hD hS hA rfl rfl rfl hl.1 rfl (Nat.le_of_ble_eq_true rfl) dX9_copy_59 ⟨Nat.le_of_ble_eq_true rfl, Nat.le_of_ble_eq_true rfl⟩ (fun r u H locs hw hP hD hS => ?_)
          obtain ⟨rfl, rfl⟩ := hw
          have hP : va_P D vwCl (CW cy a (fun _ => 0) (va_up (fun _ => 0) 10 (0 + 1)) (va_up (fun _ => none) 100 (some (a 4))) (fun _ _ => 0) RO) H := hP
          have hD : va_D A (CW cy a (fun _ => 0) (va_up (fun _ => 0) 10 (0 + 1)) (va_up (fun _ => none) 100 (some (a 4))) (fun _ _ => 0) RO) := hD
          exact qret_i hx hb hr hlocks (by simp_all [a_copy]) hS dX9_copy_62
        · refine wtop_v (y := .ref (a 16)) (by rw [hj_14]; exact congrArg va_rf hRO2) ?_
          refine lv_astore (lv' := [(7, .ref (a 16)), (6, .ref (a 16)), (0, .ref (a 0)), (1, .int x0), (2, .int x1), (3, .int x2), (4, .int x3), (5, .int x4)]) hx hb dX9_copy_37 hl (by decide) rfl (fun ls hl => ?_)
          refine lv_aload hx hb dX9_copy_39 (lv_at hl 1 rfl) ?_
          refine kR_i (As := []) (rest := []) (q0 := 16) ⟨hx, hb, hml, hown, hts⟩ (c_isMissing2 l D cy a _ RO  ) (cwV 0 hts gX9_copy_X6_isMissing rfl rfl rfl (by decide +kernel) ⟨Nat.le_of_ble_eq_true rfl, Nat.le_of_ble_eq_true rfl⟩) hK hN hP hD rfl rfl rfl hl.1 rfl (Nat.le_of_ble_eq_true rfl) dX9_copy_41 ⟨Nat.le_of_ble_eq_true rfl, Nat.le_of_ble_eq_true rfl⟩ ?_
          refine lv_if_ne (tgt := 55) hx hb dX9_copy_44 (by decide) (fun c_17 => ?_) (fun c_17 => absurd c_17 (by decide))
          refine lv_aload_n hx hb dX9_copy_55 rfl (lv_at hl 2 rfl) ?_
          refine lv_ldcw (v := (-100002)) hx hb hown hw2 dX9_copy_56 ?_
          refine kM_i (As := [.int (-100002)]) (rest := []) (q0 := 0) ⟨hx, hb, hml, hown, hts⟩ (c_X9_finding l D cy a _ (fun _ => 0) (fun _ => 0) (va_up (fun _ => none) 100 (some (a 4))) (fun _ _ => 0) RO (-100002) ) (cwV 1 hts gX9_copy_X9_finding rfl rfl rfl (by decide +kernel) ⟨Nat.le_of_ble_eq_true rfl, Nat.le_of_ble_eq_true rfl⟩) hK hN hP hD hS hA rfl rfl rfl hl.1 rfl (Nat.le_of_ble_eq_true rfl) dX9_copy_59 ⟨Nat.le_of_ble_eq_true rfl, Nat.le_of_ble_eq_true rfl⟩ (fun r u H locs hw hP hD hS => ?_)
          obtain ⟨rfl, rfl⟩ := hw
          have hP : va_P D vwCl (CW cy a (fun _ => 0) (va_up (fun _ => 0) 10 (0 + 1)) (va_up (fun _ => none) 100 (some (a 4))) (fun _ _ => 0) RO) H := hP
          have hD : va_D A (CW cy a (fun _ => 0) (va_up (fun _ => 0) 10 (0 + 1)) (va_up (fun _ => none) 100 (some (a 4))) (fun _ _ => 0) RO) := hD
          exact qret_i hx hb hr hlocks (by simp_all [a_copy]) hS dX9_copy_62
        · refine wtop_v (y := .ref (a 18)) (by rw [hj_14]; exact congrArg va_rf hRO3) ?_
          refine lv_astore (lv' := [(7, .ref (a 18)), (6, .ref (a 16)), (0, .ref (a 0)), (1, .int x0), (2, .int x1), (3, .int x2), (4, .int x3), (5, .int x4)]) hx hb dX9_copy_37 hl (by decide) rfl (fun ls hl => ?_)
          refine lv_aload hx hb dX9_copy_39 (lv_at hl 1 rfl) ?_
          refine kR_i (As := []) (rest := []) (q0 := 16) ⟨hx, hb, hml, hown, hts⟩ (c_isMissing2 l D cy a _ RO  ) (cwV 0 hts gX9_copy_X6_isMissing rfl rfl rfl (by decide +kernel) ⟨Nat.le_of_ble_eq_true rfl, Nat.le_of_ble_eq_true rfl⟩) hK hN hP hD rfl rfl rfl hl.1 rfl (Nat.le_of_ble_eq_true rfl) dX9_copy_41 ⟨Nat.le_of_ble_eq_true rfl, Nat.le_of_ble_eq_true rfl⟩ ?_
          refine lv_if_ne (tgt := 55) hx hb dX9_copy_44 (by decide) (fun c_18 => ?_) (fun c_18 => absurd c_18 (by decide))
          refine lv_aload_n hx hb dX9_copy_55 rfl (lv_at hl 2 rfl) ?_
          refine lv_ldcw (v := (-100002)) hx hb hown hw2 dX9_copy_56 ?_
          refine kM_i (As := [.int (-100002)]) (rest := []) (q0 := 0) ⟨hx, hb, hml, hown, hts⟩ (c_X9_finding l D cy a _ (fun _ => 0) (fun _ => 0) (va_up (fun _ => none) 100 (some (a 4))) (fun _ _ => 0) RO (-100002) ) (cwV 1 hts gX9_copy_X9_finding rfl rfl rfl (by decide +kernel) ⟨Nat.le_of_ble_eq_true rfl, Nat.le_of_ble_eq_true rfl⟩) hK hN hP hD hS hA rfl rfl rfl hl.1 rfl (Nat.le_of_ble_eq_true rfl) dX9_copy_59 ⟨Nat.le_of_ble_eq_true rfl, Nat.le_of_ble_eq_true rfl⟩ (fun r u H locs hw hP hD hS => ?_)
          obtain ⟨rfl, rfl⟩ := hw
          have hP : va_P D vwCl (CW cy a (fun _ => 0) (va_up (fun _ => 0) 10 (0 + 1)) (va_up (fun _ => none) 100 (some (a 4))) (fun _ _ => 0) RO) H := hP
          have hD : va_D A (CW cy a (fun _ => 0) (va_up (fun _ => 0) 10 (0 + 1)) (va_up (fun _ => none) 100 (some (a 4))) (fun _ _ => 0) RO) := hD
          exact qret_i hx hb hr hlocks (by simp_all [a_copy]) hS dX9_copy_62
      · refine wtop_v (y := .ref (a 18)) (by rw [hj_3]; exact congrArg va_rf hRO3) ?_
        refine lv_astore (lv' := [(6, .ref (a 18)), (0, .ref (a 0)), (1, .int x0), (2, .int x1), (3, .int x2), (4, .int x3), (5, .int x4)]) hx hb dX9_copy_29 hl (by decide) rfl (fun ls hl => ?_)
        refine lv_aload_n hx hb dX9_copy_31 rfl (lv_at hl 1 rfl) ?_
        refine va_get (D := D) (ci := 8) (v := .ref (a 1)) (C := RX9) (T := TX9) (N := 11) hx hb hts hi9 hown hK hP 0 rfl rfl 0 (by decide) hw1 (fun _ h9 => h9) rfl dX9_copy_32 ?_
        refine lv_iload_n hx hb dX9_copy_35 rfl (lv_at hl 4 rfl) ?_
        refine va_aldq hx hb hK hP 1 4 rfl rfl (within_in4 c_2) dX9_copy_36 ?_
        rcases in4 (within_in4 c_2) with hj_19 | hj_19 | hj_19 | hj_19
        · refine wtop_v (y := .ref (a 12)) (by rw [hj_19]; exact congrArg va_rf hRO0) ?_
          refine lv_astore (lv' := [(7, .ref (a 12)), (6, .ref (a 18)), (0, .ref (a 0)), (1, .int x0), (2, .int x1), (3, .int x2), (4, .int x3), (5, .int x4)]) hx hb dX9_copy_37 hl (by decide) rfl (fun ls hl => ?_)
          refine lv_aload hx hb dX9_copy_39 (lv_at hl 1 rfl) ?_
          refine kR_i (As := []) (rest := []) (q0 := 18) ⟨hx, hb, hml, hown, hts⟩ (c_isMissing3 l D cy a _ RO  ) (cwV 0 hts gX9_copy_X6_isMissing rfl rfl rfl (by decide +kernel) ⟨Nat.le_of_ble_eq_true rfl, Nat.le_of_ble_eq_true rfl⟩) hK hN hP hD rfl rfl rfl hl.1 rfl (Nat.le_of_ble_eq_true rfl) dX9_copy_41 ⟨Nat.le_of_ble_eq_true rfl, Nat.le_of_ble_eq_true rfl⟩ ?_
          refine lv_if_ne (tgt := 55) hx hb dX9_copy_44 (by decide) (fun c_20 => ?_) (fun c_20 => absurd c_20 (by decide))
          refine lv_aload_n hx hb dX9_copy_55 rfl (lv_at hl 2 rfl) ?_
          refine lv_ldcw (v := (-100002)) hx hb hown hw2 dX9_copy_56 ?_
          refine kM_i (As := [.int (-100002)]) (rest := []) (q0 := 0) ⟨hx, hb, hml, hown, hts⟩ (c_X9_finding l D cy a _ (fun _ => 0) (fun _ => 0) (va_up (fun _ => none) 100 (some (a 4))) (fun _ _ => 0) RO (-100002) ) (cwV 1 hts gX9_copy_X9_finding rfl rfl rfl (by decide +kernel) ⟨Nat.le_of_ble_eq_true rfl, Nat.le_of_ble_eq_true rfl⟩) hK hN hP hD hS hA rfl rfl rfl hl.1 rfl (Nat.le_of_ble_eq_true rfl) dX9_copy_59 ⟨Nat.le_of_ble_eq_true rfl, Nat.le_of_ble_eq_true rfl⟩ (fun r u H locs hw hP hD hS => ?_)
          obtain ⟨rfl, rfl⟩ := hw
          have hP : va_P D vwCl (CW cy a (fun _ => 0) (va_up (fun _ => 0) 10 (0 + 1)) (va_up (fun _ => none) 100 (some (a 4))) (fun _ _ => 0) RO) H := hP
          have hD : va_D A (CW cy a (fun _ => 0) (va_up (fun _ => 0) 10 (0 + 1)) (va_up (fun _ => none) 100 (some (a 4))) (fun _ _ => 0) RO) := hD
          exact qret_i hx hb hr hlocks (by simp_all [a_copy]) hS dX9_copy_62
        · refine wtop_v (y := .ref (a 14)) (by rw [hj_19]; exact congrArg va_rf hRO1) ?_
          refine lv_astore (lv' := [(7, .ref (a 14)), (6, .ref (a 18)), (0, .ref (a 0)), (1, .int x0), (2, .int x1), (3, .int x2), (4, .int x3), (5, .int x4)]) hx hb dX9_copy_37 hl (by decide) rfl (fun ls hl => ?_)
          refine lv_aload hx hb dX9_copy_39 (lv_at hl 1 rfl) ?_
          refine kR_i (As := []) (rest := []) (q0 := 18) ⟨hx, hb, hml, hown, hts⟩ (c_isMissing3 l D cy a _ RO  ) (cwV 0 hts gX9_copy_X6_isMissing rfl rfl rfl (by decide +kernel) ⟨Nat.le_of_ble_eq_true rfl, Nat.le_of_ble_eq_true rfl⟩) hK hN hP hD rfl rfl rfl hl.1 rfl (Nat.le_of_ble_eq_true rfl) dX9_copy_41 ⟨Nat.le_of_ble_eq_true rfl, Nat.le_of_ble_eq_true rfl⟩ ?_
          refine lv_if_ne (tgt := 55) hx hb dX9_copy_44 (by decide) (fun c_21 => ?_) (fun c_21 => absurd c_21 (by decide))
          refine lv_aload_n hx hb dX9_copy_55 rfl (lv_at hl 2 rfl) ?_
          refine lv_ldcw (v := (-100002)) hx hb hown hw2 dX9_copy_56 ?_
          refine kM_i (As := [.int (-100002)]) (rest := []) (q0 := 0) ⟨hx, hb, hml, hown, hts⟩ (c_X9_finding l D cy a _ (fun _ => 0) (fun _ => 0) (va_up (fun _ => none) 100 (some (a 4))) (fun _ _ => 0) RO (-100002) ) (cwV 1 hts gX9_copy_X9_finding rfl rfl rfl (by decide +kernel) ⟨Nat.le_of_ble_eq_true rfl, Nat.le_of_ble_eq_true rfl⟩) hK hN hP hD hS hA rfl rfl rfl hl.1 rfl (Nat.le_of_ble_eq_true rfl) dX9_copy_59 ⟨Nat.le_of_ble_eq_true rfl, Nat.le_of_ble_eq_true rfl⟩ (fun r u H locs hw hP hD hS => ?_)
          obtain ⟨rfl, rfl⟩ := hw
          have hP : va_P D vwCl (CW cy a (fun _ => 0) (va_up (fun _ => 0) 10 (0 + 1)) (va_up (fun _ => none) 100 (some (a 4))) (fun _ _ => 0) RO) H := hP
          have hD : va_D A (CW cy a (fun _ => 0) (va_up (fun _ => 0) 10 (0 + 1)) (va_up (fun _ => none) 100 (some (a 4))) (fun _ _ => 0) RO) := hD
          exact qret_i hx hb hr hlocks (by simp_all [a_copy]) hS dX9_copy_62
        · refine wtop_v (y := .ref (a 16)) (by rw [hj_19]; exact congrArg va_rf hRO2) ?_
          refine lv_astore (lv' := [(7, .ref (a 16)), (6, .ref (a 18)), (0, .ref (a 0)), (1, .int x0), (2, .int x1), (3, .int x2), (4, .int x3), (5, .int x4)]) hx hb dX9_copy_37 hl (by decide) rfl (fun ls hl => ?_)
          refine lv_aload hx hb dX9_copy_39 (lv_at hl 1 rfl) ?_
          refine kR_i (As := []) (rest := []) (q0 := 18) ⟨hx, hb, hml, hown, hts⟩ (c_isMissing3 l D cy a _ RO  ) (cwV 0 hts gX9_copy_X6_isMissing rfl rfl rfl (by decide +kernel) ⟨Nat.le_of_ble_eq_true rfl, Nat.le_of_ble_eq_true rfl⟩) hK hN hP hD rfl rfl rfl hl.1 rfl (Nat.le_of_ble_eq_true rfl) dX9_copy_41 ⟨Nat.le_of_ble_eq_true rfl, Nat.le_of_ble_eq_true rfl⟩ ?_
          refine lv_if_ne (tgt := 55) hx hb dX9_copy_44 (by decide) (fun c_22 => ?_) (fun c_22 => absurd c_22 (by decide))
          refine lv_aload_n hx hb dX9_copy_55 rfl (lv_at hl 2 rfl) ?_
          refine lv_ldcw (v := (-100002)) hx hb hown hw2 dX9_copy_56 ?_
          refine kM_i (As := [.int (-100002)]) (rest := []) (q0 := 0) ⟨hx, hb, hml, hown, hts⟩ (c_X9_finding l D cy a _ (fun _ => 0) (fun _ => 0) (va_up (fun _ => none) 100 (some (a 4))) (fun _ _ => 0) RO (-100002) ) (cwV 1 hts gX9_copy_X9_finding rfl rfl rfl (by decide +kernel) ⟨Nat.le_of_ble_eq_true rfl, Nat.le_of_ble_eq_true rfl⟩) hK hN hP hD hS hA rfl rfl rfl hl.1 rfl (Nat.le_of_ble_eq_true rfl) dX9_copy_59 ⟨Nat.le_of_ble_eq_true rfl, Nat.le_of_ble_eq_true rfl⟩ (fun r u H locs hw hP hD hS => ?_)
          obtain ⟨rfl, rfl⟩ := hw
          have hP : va_P D vwCl (CW cy a (fun _ => 0) (va_up (fun _ => 0) 10 (0 + 1)) (va_up (fun _ => none) 100 (some (a 4))) (fun _ _ => 0) RO) H := hP
          have hD : va_D A (CW cy a (fun _ => 0) (va_up (fun _ => 0) 10 (0 + 1)) (va_up (fun _ => none) 100 (some (a 4))) (fun _ _ => 0) RO) := hD
          exact qret_i hx hb hr hlocks (by simp_all [a_copy]) hS dX9_copy_62
        · refine wtop_v (y := .ref (a 18)) (by rw [hj_19]; exact congrArg va_rf hRO3) ?_
          refine lv_astore (lv' := [(7, .ref (a 18)), (6, .ref (a 18)), (0, .ref (a 0)), (1, .int x0), (2, .int x1), (3, .int x2), (4, .int x3), (5, .int x4)]) hx hb dX9_copy_37 hl (by decide) rfl (fun ls hl => ?_)
          refine lv_aload hx hb dX9_copy_39 (lv_at hl 1 rfl) ?_
          refine kR_i (As := []) (rest := []) (q0 := 18) ⟨hx, hb, hml, hown, hts⟩ (c_isMissing3 l D cy a _ RO  ) (cwV 0 hts gX9_copy_X6_isMissing rfl rfl rfl (by decide +kernel) ⟨Nat.le_of_ble_eq_true rfl, Nat.le_of_ble_eq_true rfl⟩) hK hN hP hD rfl rfl rfl hl.1 rfl (Nat.le_of_ble_eq_true rfl) dX9_copy_41 ⟨Nat.le_of_ble_eq_true rfl, Nat.le_of_ble_eq_true rfl⟩ ?_
          refine lv_if_ne (tgt := 55) hx hb dX9_copy_44 (by decide) (fun c_23 => ?_) (fun c_23 => absurd c_23 (by decide))
          refine lv_aload_n hx hb dX9_copy_55 rfl (lv_at hl 2 rfl) ?_
          refine lv_ldcw (v := (-100002)) hx hb hown hw2 dX9_copy_56 ?_
          refine kM_i (As := [.int (-100002)]) (rest := []) (q0 := 0) ⟨hx, hb, hml, hown, hts⟩ (c_X9_finding l D cy a _ (fun _ => 0) (fun _ => 0) (va_up (fun _ => none) 100 (some (a 4))) (fun _ _ => 0) RO (-100002) ) (cwV 1 hts gX9_copy_X9_finding rfl rfl rfl (by decide +kernel) ⟨Nat.le_of_ble_eq_true rfl, Nat.le_of_ble_eq_true rfl⟩) hK hN hP hD hS hA rfl rfl rfl hl.1 rfl (Nat.le_of_ble_eq_true rfl) dX9_copy_59 ⟨Nat.le_of_ble_eq_true rfl, Nat.le_of_ble_eq_true rfl⟩ (fun r u H locs hw hP hD hS => ?_)
          obtain ⟨rfl, rfl⟩ := hw
          have hP : va_P D vwCl (CW cy a (fun _ => 0) (va_up (fun _ => 0) 10 (0 + 1)) (va_up (fun _ => none) 100 (some (a 4))) (fun _ _ => 0) RO) H := hP
          have hD : va_D A (CW cy a (fun _ => 0) (va_up (fun _ => 0) 10 (0 + 1)) (va_up (fun _ => none) 100 (some (a 4))) (fun _ _ => 0) RO) := hD
          exact qret_i hx hb hr hlocks (by simp_all [a_copy]) hS dX9_copy_62
    · replace c_2 := bI_f c_2
      refine lv_aload_n hx hb dX9_copy_16 rfl (lv_at hl 0 rfl) ?_
      refine lv_ldc (v := (-100001)) hx hb hown hw0 dX9_copy_17 ?_
      refine kM_i (As := [.int (-100001)]) (rest := []) (q0 := 0) ⟨hx, hb, hml, hown, hts⟩ (c_X9_finding l D cy a _ (fun _ => 0) (fun _ => 0) (va_up (fun _ => none) 100 (some (a 4))) (fun _ _ => 0) RO (-100001) ) (cwV 1 hts gX9_copy_X9_finding rfl rfl rfl (by decide +kernel) ⟨Nat.le_of_ble_eq_true rfl, Nat.le_of_ble_eq_true rfl⟩) hK hN hP hD hS hA rfl rfl rfl hl.1 rfl (Nat.le_of_ble_eq_true rfl) dX9_copy_19 ⟨Nat.le_of_ble_eq_true rfl, Nat.le_of_ble_eq_true rfl⟩ (fun r u H locs hw hP hD hS => ?_)
      obtain ⟨rfl, rfl⟩ := hw
      have hP : va_P D vwCl (CW cy a (fun _ => 0) (va_up (fun _ => 0) 10 (0 + 1)) (va_up (fun _ => none) 100 (some (a 4))) (fun _ _ => 0) RO) H := hP
      have hD : va_D A (CW cy a (fun _ => 0) (va_up (fun _ => 0) 10 (0 + 1)) (va_up (fun _ => none) 100 (some (a 4))) (fun _ _ => 0) RO) := hD
      exact qret_i hx hb hr hlocks (by simp_all [a_copy]) hS dX9_copy_22
theorem dX9_planks_0 : decode cX9_planks 0 = .ok (.aload_n 0, 1) := by decide +kernel
theorem dX9_planks_1 : decode cX9_planks 1 = .ok (.iload_n 1, 1) := by decide +kernel
set_option maxRecDepth 20000 in
theorem ggX9_planks_X9_isSheet : GoodIn wsX9_planks wsX9_isSheet := goodIn_r _ [10, 2, 77, 78, 79, 80, 81, 82, 83, 84, 85, 86, 87] (by decide +kernel) (by decide +kernel)
set_option maxRecDepth 20000 in
theorem gX9_planks_X9_isSheet : GoodIn wsX9_planks (wsV RX9 279 RX9 yX9_isSheet wsX9_isSheet) := goodIn_app (goodIn_of _ (by decide +kernel)) ggX9_planks_X9_isSheet
theorem dX9_planks_2 : decode cX9_planks 2 = .ok (.invokevirtual 279, 3) := by decide +kernel
theorem dX9_planks_5 : decode cX9_planks 5 = .ok (.ifCond .ne 10, 3) := by decide +kernel
theorem dX9_planks_15 : decode cX9_planks 15 = .ok (.aload_n 0, 1) := by decide +kernel
theorem dX9_planks_16 : decode cX9_planks 16 = .ok (.getfield 9, 3) := by decide +kernel
theorem dX9_planks_19 : decode cX9_planks 19 = .ok (.iload_n 1, 1) := by decide +kernel
theorem dX9_planks_20 : decode cX9_planks 20 = .ok (.aaload, 1) := by decide +kernel
set_option maxRecDepth 20000 in
theorem ggX9_planks_X6_isMissing : GoodIn wsX9_planks wsX6_isMissing := goodIn_r _ [20, 21, 88, 89, 90] (by decide +kernel) (by decide +kernel)
set_option maxRecDepth 20000 in
theorem gX9_planks_X6_isMissing : GoodIn wsX9_planks (wsV RX9 289 RX6 yX6_isMissing wsX6_isMissing) := goodIn_app (goodIn_of _ (by decide +kernel)) ggX9_planks_X6_isMissing
theorem dX9_planks_21 : decode cX9_planks 21 = .ok (.invokevirtual 289, 3) := by decide +kernel
theorem dX9_planks_24 : decode cX9_planks 24 = .ok (.ifCond .eq 11, 3) := by decide +kernel
theorem dX9_planks_27 : decode cX9_planks 27 = .ok (.aload_n 0, 1) := by decide +kernel
theorem dX9_planks_28 : decode cX9_planks 28 = .ok (.ldc_w 292, 3) := by decide +kernel
set_option maxRecDepth 20000 in
theorem ggX9_planks_X9_finding : GoodIn wsX9_planks wsX9_finding := goodIn_r _ [14, 15, 77, 78, 79, 80, 81, 82, 83, 84, 85, 86, 87] (by decide +kernel) (by decide +kernel)
set_option maxRecDepth 20000 in
theorem gX9_planks_X9_finding : GoodIn wsX9_planks (wsV RX9 44 RX9 yX9_finding wsX9_finding) := goodIn_app (goodIn_of _ (by decide +kernel)) ggX9_planks_X9_finding
theorem dX9_planks_31 : decode cX9_planks 31 = .ok (.invokevirtual 44, 3) := by decide +kernel
theorem dX9_planks_34 : decode cX9_planks 34 = .ok (.ireturn, 1) := by decide +kernel
theorem dX9_planks_8 : decode cX9_planks 8 = .ok (.aload_n 0, 1) := by decide +kernel
theorem dX9_planks_9 : decode cX9_planks 9 = .ok (.ldc 43, 2) := by decide +kernel
theorem dX9_planks_11 : decode cX9_planks 11 = .ok (.invokevirtual 44, 3) := by decide +kernel
theorem dX9_planks_14 : decode cX9_planks 14 = .ok (.ireturn, 1) := by decide +kernel
set_option maxRecDepth 20000 in
theorem ihX9_planks_9 : ∀ w ∈ u_ws RX9 TX9 11, w ∈ wsX9_planks := by decide +kernel
set_option maxHeartbeats 4000000 in
set_option maxRecDepth 100000 in
theorem xp_X9_planks (l : Launch) (D : va_G) (cy : Nat → ClassId) (a : Nat → Nat) (sz : Nat) (RO : Nat → Nat → Option Nat) (x0 : Int32) (hRO0 : RO 1 0 = some (a 12)) (hRO1 : RO 1 1 = some (a 14)) (hRO2 : RO 1 2 = some (a 16)) (hRO3 : RO 1 3 = some (a 18)) : Met l yX9_planks wsX9_planks ({ frames := 1, cells := 0, slots := 0, locals := 21 }) (va_Pc [.ref (a 0), .int x0] (PW D cy sz (CW cy a (fun _ => 0) (fun _ => 0) (va_up (fun _ => none) 100 (some (a 4))) (fun _ _ => 0) RO))) (va_Qi (fun r (_ : Unit) => r = a_put x0) (fun _ _ => True) (va_A (CW cy a (fun _ => 0) (fun _ => 0) (va_up (fun _ => none) 100 (some (a 4))) (fun _ _ => 0) RO) sz)) 0 0 (va_A (CW cy a (fun _ => 0) (fun _ => 0) (va_up (fun _ => none) 100 (some (a 4))) (fun _ _ => 0) RO) sz) := by
  refine Met.ofW (cc := cX9_planks) (maxL := 2) (ret := (some .int)) (by decide) rfl ?_
  intro p e s m args below meth c s₁ B hml hv
  obtain ⟨rfl, rfl, hP, hK, hN, hD0⟩ := hv
  have hx := B.exec
  have hb := B.bytes
  have hr := B.returns
  have hts := atoms_spec (ws := wsX9_planks) B.pre
  have hown : s.vm.findClass RX9 = some m.cls := findClass_of_methodNamed B.named
  have hlocks := B.notSynchronized
  have hw0 := hts (.fieldLink RX9 9 "ParquetLayer" "sheets" "[LParquetLayer$Sheet;") (by decide +kernel)
  have hw1 := hts (.constant RX9 292 (-100002)) (by decide +kernel)
  have hw2 := hts (.constant RX9 43 (-100001)) (by decide +kernel)
  have hi9 := ihX9_planks_9
  have hD := hD0.self (sz := s.heap.size)
  generalize hAe : va_A (CW cy a (fun _ => 0) (fun _ => 0) (va_up (fun _ => none) 100 (some (a 4))) (fun _ _ => 0) RO) s.heap.size = A at hD ⊢
  have hA : ∀ q : Nat, s.heap.size ≤ q → A q := fun q h => by rw [← hAe]; exact Or.inr h
  have hS : va_S A s.heap s.heap [] := va_S.rf
  have hl := lv_entry ([.ref (a 0), .int x0]) (n := 2) (Nat.le_of_ble_eq_true rfl)
  rw [lg_entry_eq]
  generalize (lg_sl ([.ref (a 0), .int x0]) ++ List.replicate (2 - (lg_sl ([.ref (a 0), .int x0])).length) Slot.unset).toArray = ls at hl ⊢
  have hl : lv_has ls 2 [(0, .ref (a 0)), (1, .int x0)] := hl
  refine lv_aload_n hx hb dX9_planks_0 rfl (lv_at hl 0 rfl) ?_
  refine lv_iload_n hx hb dX9_planks_1 rfl (lv_at hl 1 rfl) ?_
  refine kR_i (As := [.int x0]) (rest := []) (q0 := 0) ⟨hx, hb, hml, hown, hts⟩ (c_X9_isSheet l D cy a _ RO x0 ) (cwV 1 hts gX9_planks_X9_isSheet rfl rfl rfl (by decide +kernel) ⟨Nat.le_of_ble_eq_true rfl, Nat.le_of_ble_eq_true rfl⟩) hK hN hP hD rfl rfl rfl hl.1 rfl (Nat.le_of_ble_eq_true rfl) dX9_planks_2 ⟨Nat.le_of_ble_eq_true rfl, Nat.le_of_ble_eq_true rfl⟩ ?_
  refine lv_if_ne (tgt := 15) hx hb dX9_planks_5 (by decide) (fun c_1 => ?_) (fun c_1 => ?_)
  · replace c_1 := bI_t c_1
    refine lv_aload_n hx hb dX9_planks_15 rfl (lv_at hl 0 rfl) ?_
    refine va_get (D := D) (ci := 8) (v := .ref (a 1)) (C := RX9) (T := TX9) (N := 11) hx hb hts hi9 hown hK hP 0 rfl rfl 0 (by decide) hw0 (fun _ h9 => h9) rfl dX9_planks_16 ?_
    refine lv_iload_n hx hb dX9_planks_19 rfl (lv_at hl 1 rfl) ?_
    refine va_aldq hx hb hK hP 1 4 rfl rfl (within_in4 c_1) dX9_planks_20 ?_
    rcases in4 (within_in4 c_1) with hj_2 | hj_2 | hj_2 | hj_2
    · refine wtop_v (y := .ref (a 12)) (by rw [hj_2]; exact congrArg va_rf hRO0) ?_
      refine kR_i (As := []) (rest := []) (q0 := 12) ⟨hx, hb, hml, hown, hts⟩ (c_isMissing0 l D cy a _ RO  ) (cwV 0 hts gX9_planks_X6_isMissing rfl rfl rfl (by decide +kernel) ⟨Nat.le_of_ble_eq_true rfl, Nat.le_of_ble_eq_true rfl⟩) hK hN hP hD rfl rfl rfl hl.1 rfl (Nat.le_of_ble_eq_true rfl) dX9_planks_21 ⟨Nat.le_of_ble_eq_true rfl, Nat.le_of_ble_eq_true rfl⟩ ?_
      refine lv_if_eq (tgt := 35) hx hb dX9_planks_24 (by decide) (fun c_3 => absurd c_3 (by decide)) (fun c_3 => ?_)
      refine lv_aload_n hx hb dX9_planks_27 rfl (lv_at hl 0 rfl) ?_
      refine lv_ldcw (v := (-100002)) hx hb hown hw1 dX9_planks_28 ?_
      refine kM_i (As := [.int (-100002)]) (rest := []) (q0 := 0) ⟨hx, hb, hml, hown, hts⟩ (c_X9_finding l D cy a _ (fun _ => 0) (fun _ => 0) (va_up (fun _ => none) 100 (some (a 4))) (fun _ _ => 0) RO (-100002) ) (cwV 1 hts gX9_planks_X9_finding rfl rfl rfl (by decide +kernel) ⟨Nat.le_of_ble_eq_true rfl, Nat.le_of_ble_eq_true rfl⟩) hK hN hP hD hS hA rfl rfl rfl hl.1 rfl (Nat.le_of_ble_eq_true rfl) dX9_planks_31 ⟨Nat.le_of_ble_eq_true rfl, Nat.le_of_ble_eq_true rfl⟩ (fun r u H locs hw hP hD hS => ?_)
      obtain ⟨rfl, rfl⟩ := hw
      have hP : va_P D vwCl (CW cy a (fun _ => 0) (va_up (fun _ => 0) 10 (0 + 1)) (va_up (fun _ => none) 100 (some (a 4))) (fun _ _ => 0) RO) H := hP
      have hD : va_D A (CW cy a (fun _ => 0) (va_up (fun _ => 0) 10 (0 + 1)) (va_up (fun _ => none) 100 (some (a 4))) (fun _ _ => 0) RO) := hD
      exact qret_i hx hb hr hlocks (by simp [a_put, c_1]) hS dX9_planks_34
    · refine wtop_v (y := .ref (a 14)) (by rw [hj_2]; exact congrArg va_rf hRO1) ?_
      refine kR_i (As := []) (rest := []) (q0 := 14) ⟨hx, hb, hml, hown, hts⟩ (c_isMissing1 l D cy a _ RO  ) (cwV 0 hts gX9_planks_X6_isMissing rfl rfl rfl (by decide +kernel) ⟨Nat.le_of_ble_eq_true rfl, Nat.le_of_ble_eq_true rfl⟩) hK hN hP hD rfl rfl rfl hl.1 rfl (Nat.le_of_ble_eq_true rfl) dX9_planks_21 ⟨Nat.le_of_ble_eq_true rfl, Nat.le_of_ble_eq_true rfl⟩ ?_
      refine lv_if_eq (tgt := 35) hx hb dX9_planks_24 (by decide) (fun c_4 => absurd c_4 (by decide)) (fun c_4 => ?_)
      refine lv_aload_n hx hb dX9_planks_27 rfl (lv_at hl 0 rfl) ?_
      refine lv_ldcw (v := (-100002)) hx hb hown hw1 dX9_planks_28 ?_
      refine kM_i (As := [.int (-100002)]) (rest := []) (q0 := 0) ⟨hx, hb, hml, hown, hts⟩ (c_X9_finding l D cy a _ (fun _ => 0) (fun _ => 0) (va_up (fun _ => none) 100 (some (a 4))) (fun _ _ => 0) RO (-100002) ) (cwV 1 hts gX9_planks_X9_finding rfl rfl rfl (by decide +kernel) ⟨Nat.le_of_ble_eq_true rfl, Nat.le_of_ble_eq_true rfl⟩) hK hN hP hD hS hA rfl rfl rfl hl.1 rfl (Nat.le_of_ble_eq_true rfl) dX9_planks_31 ⟨Nat.le_of_ble_eq_true rfl, Nat.le_of_ble_eq_true rfl⟩ (fun r u H locs hw hP hD hS => ?_)
      obtain ⟨rfl, rfl⟩ := hw
      have hP : va_P D vwCl (CW cy a (fun _ => 0) (va_up (fun _ => 0) 10 (0 + 1)) (va_up (fun _ => none) 100 (some (a 4))) (fun _ _ => 0) RO) H := hP
      have hD : va_D A (CW cy a (fun _ => 0) (va_up (fun _ => 0) 10 (0 + 1)) (va_up (fun _ => none) 100 (some (a 4))) (fun _ _ => 0) RO) := hD
      exact qret_i hx hb hr hlocks (by simp [a_put, c_1]) hS dX9_planks_34
    · refine wtop_v (y := .ref (a 16)) (by rw [hj_2]; exact congrArg va_rf hRO2) ?_
      refine kR_i (As := []) (rest := []) (q0 := 16) ⟨hx, hb, hml, hown, hts⟩ (c_isMissing2 l D cy a _ RO  ) (cwV 0 hts gX9_planks_X6_isMissing rfl rfl rfl (by decide +kernel) ⟨Nat.le_of_ble_eq_true rfl, Nat.le_of_ble_eq_true rfl⟩) hK hN hP hD rfl rfl rfl hl.1 rfl (Nat.le_of_ble_eq_true rfl) dX9_planks_21 ⟨Nat.le_of_ble_eq_true rfl, Nat.le_of_ble_eq_true rfl⟩ ?_
      refine lv_if_eq (tgt := 35) hx hb dX9_planks_24 (by decide) (fun c_5 => absurd c_5 (by decide)) (fun c_5 => ?_)
      refine lv_aload_n hx hb dX9_planks_27 rfl (lv_at hl 0 rfl) ?_
      refine lv_ldcw (v := (-100002)) hx hb hown hw1 dX9_planks_28 ?_
      refine kM_i (As := [.int (-100002)]) (rest := []) (q0 := 0) ⟨hx, hb, hml, hown, hts⟩ (c_X9_finding l D cy a _ (fun _ => 0) (fun _ => 0) (va_up (fun _ => none) 100 (some (a 4))) (fun _ _ => 0) RO (-100002) ) (cwV 1 hts gX9_planks_X9_finding rfl rfl rfl (by decide +kernel) ⟨Nat.le_of_ble_eq_true rfl, Nat.le_of_ble_eq_true rfl⟩) hK hN hP hD hS hA rfl rfl rfl hl.1 rfl (Nat.le_of_ble_eq_true rfl) dX9_planks_31 ⟨Nat.le_of_ble_eq_true rfl, Nat.le_of_ble_eq_true rfl⟩ (fun r u H locs hw hP hD hS => ?_)
      obtain ⟨rfl, rfl⟩ := hw
      have hP : va_P D vwCl (CW cy a (fun _ => 0) (va_up (fun _ => 0) 10 (0 + 1)) (va_up (fun _ => none) 100 (some (a 4))) (fun _ _ => 0) RO) H := hP
      have hD : va_D A (CW cy a (fun _ => 0) (va_up (fun _ => 0) 10 (0 + 1)) (va_up (fun _ => none) 100 (some (a 4))) (fun _ _ => 0) RO) := hD
      exact qret_i hx hb hr hlocks (by simp [a_put, c_1]) hS dX9_planks_34
    · refine wtop_v (y := .ref (a 18)) (by rw [hj_2]; exact congrArg va_rf hRO3) ?_
      refine kR_i (As := []) (rest := []) (q0 := 18) ⟨hx, hb, hml, hown, hts⟩ (c_isMissing3 l D cy a _ RO  ) (cwV 0 hts gX9_planks_X6_isMissing rfl rfl rfl (by decide +kernel) ⟨Nat.le_of_ble_eq_true rfl, Nat.le_of_ble_eq_true rfl⟩) hK hN hP hD rfl rfl rfl hl.1 rfl (Nat.le_of_ble_eq_true rfl) dX9_planks_21 ⟨Nat.le_of_ble_eq_true rfl, Nat.le_of_ble_eq_true rfl⟩ ?_
      refine lv_if_eq (tgt := 35) hx hb dX9_planks_24 (by decide) (fun c_6 => absurd c_6 (by decide)) (fun c_6 => ?_)
      refine lv_aload_n hx hb dX9_planks_27 rfl (lv_at hl 0 rfl) ?_
      refine lv_ldcw (v := (-100002)) hx hb hown hw1 dX9_planks_28 ?_
      refine kM_i (As := [.int (-100002)]) (rest := []) (q0 := 0) ⟨hx, hb, hml, hown, hts⟩ (c_X9_finding l D cy a _ (fun _ => 0) (fun _ => 0) (va_up (fun _ => none) 100 (some (a 4))) (fun _ _ => 0) RO (-100002) ) (cwV 1 hts gX9_planks_X9_finding rfl rfl rfl (by decide +kernel) ⟨Nat.le_of_ble_eq_true rfl, Nat.le_of_ble_eq_true rfl⟩) hK hN hP hD hS hA rfl rfl rfl hl.1 rfl (Nat.le_of_ble_eq_true rfl) dX9_planks_31 ⟨Nat.le_of_ble_eq_true rfl, Nat.le_of_ble_eq_true rfl⟩ (fun r u H locs hw hP hD hS => ?_)
      obtain ⟨rfl, rfl⟩ := hw
      have hP : va_P D vwCl (CW cy a (fun _ => 0) (va_up (fun _ => 0) 10 (0 + 1)) (va_up (fun _ => none) 100 (some (a 4))) (fun _ _ => 0) RO) H := hP
      have hD : va_D A (CW cy a (fun _ => 0) (va_up (fun _ => 0) 10 (0 + 1)) (va_up (fun _ => none) 100 (some (a 4))) (fun _ _ => 0) RO) := hD
      exact qret_i hx hb hr hlocks (by simp [a_put, c_1]) hS dX9_planks_34
  · replace c_1 := bI_f c_1
    refine lv_aload_n hx hb dX9_planks_8 rfl (lv_at hl 0 rfl) ?_
    refine lv_ldc (v := (-100001)) hx hb hown hw2 dX9_planks_9 ?_
    refine kM_i (As := [.int (-100001)]) (rest := []) (q0 := 0) ⟨hx, hb, hml, hown, hts⟩ (c_X9_finding l D cy a _ (fun _ => 0) (fun _ => 0) (va_up (fun _ => none) 100 (some (a 4))) (fun _ _ => 0) RO (-100001) ) (cwV 1 hts gX9_planks_X9_finding rfl rfl rfl (by decide +kernel) ⟨Nat.le_of_ble_eq_true rfl, Nat.le_of_ble_eq_true rfl⟩) hK hN hP hD hS hA rfl rfl rfl hl.1 rfl (Nat.le_of_ble_eq_true rfl) dX9_planks_11 ⟨Nat.le_of_ble_eq_true rfl, Nat.le_of_ble_eq_true rfl⟩ (fun r u H locs hw hP hD hS => ?_)
    obtain ⟨rfl, rfl⟩ := hw
    have hP : va_P D vwCl (CW cy a (fun _ => 0) (va_up (fun _ => 0) 10 (0 + 1)) (va_up (fun _ => none) 100 (some (a 4))) (fun _ _ => 0) RO) H := hP
    have hD : va_D A (CW cy a (fun _ => 0) (va_up (fun _ => 0) 10 (0 + 1)) (va_up (fun _ => none) 100 (some (a 4))) (fun _ _ => 0) RO) := hD
    exact qret_i hx hb hr hlocks (by simp [a_put, c_1]) hS dX9_planks_14
