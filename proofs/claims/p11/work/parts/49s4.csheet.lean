theorem dX6_isMissing_0 : decode cX6_isMissing 0 = .ok (.aload_n 0, 1) := by decide +kernel
theorem dX6_isMissing_1 : decode cX6_isMissing 1 = .ok (.getfield 13, 3) := by decide +kernel
theorem dX6_isMissing_4 : decode cX6_isMissing 4 = .ok (.ifCond .ne 7, 3) := by decide +kernel
theorem dX6_isMissing_11 : decode cX6_isMissing 11 = .ok (.iconst 0, 1) := by decide +kernel
theorem dX6_isMissing_12 : decode cX6_isMissing 12 = .ok (.ireturn, 1) := by decide +kernel
theorem dX6_isMissing_7 : decode cX6_isMissing 7 = .ok (.iconst 1, 1) := by decide +kernel
theorem dX6_isMissing_8 : decode cX6_isMissing 8 = .ok (.goto 4, 3) := by decide +kernel
set_option maxRecDepth 20000 in
theorem ihX6_isMissing_6 : ∀ w ∈ u_ws RX6 TX6 3, w ∈ wsX6_isMissing := fun _ h => List.mem_cons_of_mem _ (List.mem_append_right _ h)
set_option maxHeartbeats 4000000 in
set_option maxRecDepth 100000 in
theorem x_X6_isMissing12 (l : Launch) (D : va_G) (cy : Nat → ClassId) (a : Nat → Nat) (sz : Nat) (J : Nat → Int64) (I : Nat → Int32) (O : Nat → Option Nat) (R : Nat → Nat → Int32) (RO : Nat → Nat → Option Nat) (LL : va_W) (Y : va_W)  : Met l yX6_isMissing wsX6_isMissing ({ frames := 0, cells := 0, slots := 0, locals := 0 }) (va_Pc [.ref (a 12)] (PW D cy sz (CT cy a J I O R RO (LL ++ Y)))) (vp_Si (fun r => r = bI (decide ((I 385) = 0)))) 0 0 (fun _ => False) := by
  refine Met.ofW (cc := cX6_isMissing) (maxL := 1) (ret := (some .boolean)) (by decide) rfl ?_
  intro p e s m args below meth c s₁ B hml hv
  obtain ⟨rfl, rfl, hP, hK, hN, hD0⟩ := hv
  have hx := B.exec
  have hb := B.bytes
  have hr := B.returns
  have hts := atoms_spec (ws := wsX6_isMissing) B.pre
  have hown : s.vm.findClass RX6 = some m.cls := findClass_of_methodNamed B.named
  have hlocks := B.notSynchronized
  have hw0 := hts (.fieldLink RX6 13 "ParquetLayer$Sheet" "bits" "I") (by decide +kernel)
  have hi6 := ihX6_isMissing_6
  have hD := hD0
  have hl := lv_entry ([.ref (a 12)]) (n := 1) (Nat.le_of_ble_eq_true rfl)
  rw [lg_entry_eq]
  generalize (lg_sl ([.ref (a 12)]) ++ List.replicate (1 - (lg_sl ([.ref (a 12)])).length) Slot.unset).toArray = ls at hl ⊢
  have hl : lv_has ls 1 [(0, .ref (a 12))] := hl
  refine lv_aload_n hx hb dX6_isMissing_0 rfl (lv_at hl 0 rfl) ?_
  refine va_get (D := D) (ci := 5) (v := .int (I 385)) (C := RX6) (T := TX6) (N := 3) hx hb hts hi6 hown hK hP 12 rfl rfl 1 (by decide) hw0 (fun _ h9 => h9) rfl dX6_isMissing_1 ?_
  refine lv_if_ne (tgt := 11) hx hb dX6_isMissing_4 (by decide) (fun c_1 => ?_) (fun c_1 => ?_)
  · refine lv_iconst (v := 0) hx hb dX6_isMissing_11 (by decide) ?_
    exact pret_z hx hb hr hlocks (bd_f c_1) dX6_isMissing_12
  · refine lv_iconst (v := 1) hx hb dX6_isMissing_7 (by decide) ?_
    refine lv_goto (tgt := 12) hx hb dX6_isMissing_8 (by decide) ?_
    exact pret_z hx hb hr hlocks (bd_t c_1) dX6_isMissing_12
theorem dX6_hasRange_0 : decode cX6_hasRange 0 = .ok (.iload_n 1, 1) := by decide +kernel
theorem dX6_hasRange_1 : decode cX6_hasRange 1 = .ok (.ifCond .lt 29, 3) := by decide +kernel
theorem dX6_hasRange_30 : decode cX6_hasRange 30 = .ok (.iconst 0, 1) := by decide +kernel
theorem dX6_hasRange_31 : decode cX6_hasRange 31 = .ok (.ireturn, 1) := by decide +kernel
theorem dX6_hasRange_4 : decode cX6_hasRange 4 = .ok (.iload_n 2, 1) := by decide +kernel
theorem dX6_hasRange_5 : decode cX6_hasRange 5 = .ok (.ifCond .lt 25, 3) := by decide +kernel
theorem dX6_hasRange_8 : decode cX6_hasRange 8 = .ok (.iload_n 2, 1) := by decide +kernel
theorem dX6_hasRange_9 : decode cX6_hasRange 9 = .ok (.aload_n 0, 1) := by decide +kernel
theorem dX6_hasRange_10 : decode cX6_hasRange 10 = .ok (.getfield 17, 3) := by decide +kernel
theorem dX6_hasRange_13 : decode cX6_hasRange 13 = .ok (.if_icmp .gt 17, 3) := by decide +kernel
theorem dX6_hasRange_16 : decode cX6_hasRange 16 = .ok (.iload_n 1, 1) := by decide +kernel
theorem dX6_hasRange_17 : decode cX6_hasRange 17 = .ok (.aload_n 0, 1) := by decide +kernel
theorem dX6_hasRange_18 : decode cX6_hasRange 18 = .ok (.getfield 17, 3) := by decide +kernel
theorem dX6_hasRange_21 : decode cX6_hasRange 21 = .ok (.iload_n 2, 1) := by decide +kernel
theorem dX6_hasRange_22 : decode cX6_hasRange 22 = .ok (.isub, 1) := by decide +kernel
theorem dX6_hasRange_23 : decode cX6_hasRange 23 = .ok (.if_icmp .gt 7, 3) := by decide +kernel
theorem dX6_hasRange_26 : decode cX6_hasRange 26 = .ok (.iconst 1, 1) := by decide +kernel
theorem dX6_hasRange_27 : decode cX6_hasRange 27 = .ok (.goto 4, 3) := by decide +kernel
set_option maxRecDepth 20000 in
theorem ihX6_hasRange_6 : ∀ w ∈ u_ws RX6 TX6 3, w ∈ wsX6_hasRange := fun _ h => List.mem_cons_of_mem _ (List.mem_append_right _ h)
set_option maxHeartbeats 4000000 in
set_option maxRecDepth 100000 in
theorem x_X6_hasRange12 (l : Launch) (D : va_G) (cy : Nat → ClassId) (a : Nat → Nat) (sz : Nat) (J : Nat → Int64) (I : Nat → Int32) (O : Nat → Option Nat) (R : Nat → Nat → Int32) (RO : Nat → Nat → Option Nat) (LL : va_W) (Y : va_W) (x0 : Int32) (x1 : Int32) : Met l yX6_hasRange wsX6_hasRange ({ frames := 0, cells := 0, slots := 0, locals := 0 }) (va_Pc [.ref (a 12), .int x0, .int x1] (PW D cy sz (CT cy a J I O R RO (LL ++ Y)))) (vp_Si (fun r => r = bI (g_rng x0 x1 (I 386)))) 0 0 (fun _ => False) := by
  refine Met.ofW (cc := cX6_hasRange) (maxL := 3) (ret := (some .boolean)) (by decide) rfl ?_
  intro p e s m args below meth c s₁ B hml hv
  obtain ⟨rfl, rfl, hP, hK, hN, hD0⟩ := hv
  have hx := B.exec
  have hb := B.bytes
  have hr := B.returns
  have hts := atoms_spec (ws := wsX6_hasRange) B.pre
  have hown : s.vm.findClass RX6 = some m.cls := findClass_of_methodNamed B.named
  have hlocks := B.notSynchronized
  have hw0 := hts (.fieldLink RX6 17 "ParquetLayer$Sheet" "size" "I") (by decide +kernel)
  have hi6 := ihX6_hasRange_6
  have hD := hD0
  have hl := lv_entry ([.ref (a 12), .int x0, .int x1]) (n := 3) (Nat.le_of_ble_eq_true rfl)
  rw [lg_entry_eq]
  generalize (lg_sl ([.ref (a 12), .int x0, .int x1]) ++ List.replicate (3 - (lg_sl ([.ref (a 12), .int x0, .int x1])).length) Slot.unset).toArray = ls at hl ⊢
  have hl : lv_has ls 3 [(0, .ref (a 12)), (1, .int x0), (2, .int x1)] := hl
  refine lv_iload_n hx hb dX6_hasRange_0 rfl (lv_at hl 1 rfl) ?_
  refine lv_if_lt (tgt := 30) hx hb dX6_hasRange_1 (by decide) (fun c_1 => ?_) (fun c_1 => ?_)
  · refine lv_iconst (v := 0) hx hb dX6_hasRange_30 (by decide) ?_
    exact pret_z hx hb hr hlocks (rn_f (Or.inl c_1)) dX6_hasRange_31
  · refine lv_iload_n hx hb dX6_hasRange_4 rfl (lv_at hl 2 rfl) ?_
    refine lv_if_lt (tgt := 30) hx hb dX6_hasRange_5 (by decide) (fun c_2 => ?_) (fun c_2 => ?_)
    · refine lv_iconst (v := 0) hx hb dX6_hasRange_30 (by decide) ?_
      exact pret_z hx hb hr hlocks (rn_f (Or.inr (Or.inl c_2))) dX6_hasRange_31
    · refine lv_iload_n hx hb dX6_hasRange_8 rfl (lv_at hl 2 rfl) ?_
      refine lv_aload_n hx hb dX6_hasRange_9 rfl (lv_at hl 0 rfl) ?_
      refine va_get (D := D) (ci := 5) (v := .int (I 386)) (C := RX6) (T := TX6) (N := 3) hx hb hts hi6 hown hK hP 12 rfl rfl 2 (by decide) hw0 (fun _ h9 => h9) rfl dX6_hasRange_10 ?_
      refine lv_icmp_gt (tgt := 30) hx hb dX6_hasRange_13 (by decide) (fun c_3 => ?_) (fun c_3 => ?_)
      · refine lv_iconst (v := 0) hx hb dX6_hasRange_30 (by decide) ?_
        exact pret_z hx hb hr hlocks (rn_f (Or.inr (Or.inr (Or.inl c_3)))) dX6_hasRange_31
      · refine lv_iload_n hx hb dX6_hasRange_16 rfl (lv_at hl 1 rfl) ?_
        refine lv_aload_n hx hb dX6_hasRange_17 rfl (lv_at hl 0 rfl) ?_
        refine va_get (D := D) (ci := 5) (v := .int (I 386)) (C := RX6) (T := TX6) (N := 3) hx hb hts hi6 hown hK hP 12 rfl rfl 2 (by decide) hw0 (fun _ h9 => h9) rfl dX6_hasRange_18 ?_
        refine lv_iload_n hx hb dX6_hasRange_21 rfl (lv_at hl 2 rfl) ?_
        refine lv_isub hx hb dX6_hasRange_22 ?_
        refine lv_icmp_gt (tgt := 30) hx hb dX6_hasRange_23 (by decide) (fun c_4 => ?_) (fun c_4 => ?_)
        · refine lv_iconst (v := 0) hx hb dX6_hasRange_30 (by decide) ?_
          exact pret_z hx hb hr hlocks (rn_f (Or.inr (Or.inr (Or.inr c_4)))) dX6_hasRange_31
        · refine lv_iconst (v := 1) hx hb dX6_hasRange_26 (by decide) ?_
          refine lv_goto (tgt := 31) hx hb dX6_hasRange_27 (by decide) ?_
          exact pret_z hx hb hr hlocks (rn_t c_1 c_2 c_3 c_4) dX6_hasRange_31
theorem dX6_begin_0 : decode cX6_begin 0 = .ok (.aload_n 0, 1) := by decide +kernel
theorem dX6_begin_1 : decode cX6_begin 1 = .ok (.iload_n 1, 1) := by decide +kernel
theorem dX6_begin_2 : decode cX6_begin 2 = .ok (.putfield 13, 3) := by decide +kernel
theorem dX6_begin_5 : decode cX6_begin 5 = .ok (.aload_n 0, 1) := by decide +kernel
theorem dX6_begin_6 : decode cX6_begin 6 = .ok (.iload_n 1, 1) := by decide +kernel
theorem dX6_begin_7 : decode cX6_begin 7 = .ok (.ifCond .ne 7, 3) := by decide +kernel
theorem dX6_begin_14 : decode cX6_begin 14 = .ok (.iload_n 2, 1) := by decide +kernel
theorem dX6_begin_15 : decode cX6_begin 15 = .ok (.putfield 17, 3) := by decide +kernel
theorem dX6_begin_18 : decode cX6_begin 18 = .ok (.aload_n 0, 1) := by decide +kernel
theorem dX6_begin_19 : decode cX6_begin 19 = .ok (.getfield 9, 3) := by decide +kernel
theorem dX6_begin_22 : decode cX6_begin 22 = .ok (.iconst 0, 1) := by decide +kernel
set_option maxRecDepth 20000 in
theorem ggX6_begin_J7_fill_53178 : GoodIn wsX6_begin wsJ7_fill_53178 := goodIn_r _ [7] rfl (by decide +kernel)
set_option maxRecDepth 20000 in
theorem gX6_begin_J7_fill_53178 : GoodIn wsX6_begin (va_wsS RX6 20 yJ7_fill_53178 wsJ7_fill_53178) := goodIn_app (goodIn_of _ (by decide +kernel)) ggX6_begin_J7_fill_53178
theorem dX6_begin_23 : decode cX6_begin 23 = .ok (.invokestatic 20, 3) := by decide +kernel
theorem dX6_begin_26 : decode cX6_begin 26 = .ok (.return_, 1) := by decide +kernel
theorem dX6_begin_10 : decode cX6_begin 10 = .ok (.iconst 0, 1) := by decide +kernel
theorem dX6_begin_11 : decode cX6_begin 11 = .ok (.goto 4, 3) := by decide +kernel
set_option maxRecDepth 20000 in
theorem ihX6_begin_6 : ∀ w ∈ u_ws RX6 TX6 3, w ∈ wsX6_begin := fun _ h => List.mem_cons_of_mem _ (List.mem_append_right _ h)
set_option maxHeartbeats 4000000 in
set_option maxRecDepth 100000 in
theorem x_X6_begin12 (l : Launch) (D : va_G) (cy : Nat → ClassId) (a : Nat → Nat) (sz : Nat) (J : Nat → Int64) (I : Nat → Int32) (O : Nat → Option Nat) (R : Nat → Nat → Int32) (RO : Nat → Nat → Option Nat) (LL : va_W) (Y : va_W) (x0 : Int32) (x1 : Int32) (hx1 : vp_in x1 17) (hM : CI a Y I O RO) : Met l yX6_begin wsX6_begin ({ frames := 1, cells := 0, slots := 0, locals := 23 }) (va_Pc [.ref (a 12), .int x0, .int x1] (PW D cy sz (CT cy a J I O R RO (LL ++ Y)))) (va_Qv (fun (u : TS) => ∃ (w0 : Int32), ∃ (w1 : Int32), ∃ (w2 : Nat → Int32), ((vp_in w1 17) ∧ (w1 = (if x0 = 0 then 0 else x1)) ∧ (w0 = x0) ∧ (∀ p, p < 16 → w2 p = 0)) ∧ u = (J, (va_up (va_up I 385 w0) 386 w1), O, (va_up R 13 w2), RO, LL, Y)) (BW D (va_A (CT cy a J I O R RO (LL ++ Y)) sz) (CTu cy a)) (va_A (CT cy a J I O R RO (LL ++ Y)) sz)) 0 0 (va_A (CT cy a J I O R RO (LL ++ Y)) sz) := by
  refine Met.ofW (cc := cX6_begin) (maxL := 3) (ret := none) (by decide) rfl ?_
  intro p e s m args below meth c s₁ B hml hv
  obtain ⟨rfl, rfl, hP, hK, hN, hD0⟩ := hv
  have hx := B.exec
  have hb := B.bytes
  have hr := B.returns
  have hts := atoms_spec (ws := wsX6_begin) B.pre
  have hown : s.vm.findClass RX6 = some m.cls := findClass_of_methodNamed B.named
  have hlocks := B.notSynchronized
  have hw0 := hts (.fieldLink RX6 13 "ParquetLayer$Sheet" "bits" "I") (by decide +kernel)
  have hw1 := hts (.fieldLink RX6 17 "ParquetLayer$Sheet" "size" "I") (by decide +kernel)
  have hw2 := hts (.fieldLink RX6 9 "ParquetLayer$Sheet" "numbers" "[I") (by decide +kernel)
  have hi6 := ihX6_begin_6
  have hD := hD0.self (sz := s.heap.size)
  generalize hAe : va_A (CT cy a J I O R RO (LL ++ Y)) s.heap.size = A at hD ⊢
  have hA : ∀ q : Nat, s.heap.size ≤ q → A q := fun q h => by rw [← hAe]; exact Or.inr h
  have hS : va_S A s.heap s.heap [] := va_S.rf
  have hl := lv_entry ([.ref (a 12), .int x0, .int x1]) (n := 3) (Nat.le_of_ble_eq_true rfl)
  rw [lg_entry_eq]
  generalize (lg_sl ([.ref (a 12), .int x0, .int x1]) ++ List.replicate (3 - (lg_sl ([.ref (a 12), .int x0, .int x1])).length) Slot.unset).toArray = ls at hl ⊢
  have hl : lv_has ls 3 [(0, .ref (a 12)), (1, .int x0), (2, .int x1)] := hl
  have hRO0 := hM.2.2.2.2.2.2.2.2.1
  have hRO1 := hM.2.2.2.2.2.2.2.2.2.1
  have hRO2 := hM.2.2.2.2.2.2.2.2.2.2.1
  have hRO3 := hM.2.2.2.2.2.2.2.2.2.2.2
  have hP : va_P D vwCl (CT cy a J (va_up (va_up I 385 (I 385)) 386 (I 386)) O (va_up R 13 (R 13)) RO (LL ++ Y)) s.heap := hP
  have hD : va_D A (CT cy a J (va_up (va_up I 385 (I 385)) 386 (I 386)) O (va_up R 13 (R 13)) RO (LL ++ Y)) := hD
  refine lv_aload_n hx hb dX6_begin_0 rfl (lv_at hl 0 rfl) ?_
  refine lv_iload_n hx hb dX6_begin_1 rfl (lv_at hl 1 rfl) ?_
  refine va_put (D := D) (ci := 5) (v := .int x0) (ty := .int) (C := RX6) (T := TX6) (N := 3) hx hb hts hi6 tyX6 tyX6_ok nmX6 hown hK hP hD hS 12 rfl rfl 1 (by decide) hw0 (fun _ h9 => h9) rfl (by decide +kernel) rfl rfl (Nat.le_of_ble_eq_true rfl) dX6_begin_2 (fun H locs hP hD hS => ?_)
  have hP : va_P D vwCl (CT cy a J (va_up (va_up I 385 x0) 386 (I 386)) O (va_up R 13 (R 13)) RO (LL ++ Y)) H := hP
  have hD : va_D A (CT cy a J (va_up (va_up I 385 x0) 386 (I 386)) O (va_up R 13 (R 13)) RO (LL ++ Y)) := hD
  refine lv_aload_n hx hb dX6_begin_5 rfl (lv_at hl 0 rfl) ?_
  refine lv_iload_n hx hb dX6_begin_6 rfl (lv_at hl 1 rfl) ?_
  refine lv_if_ne (tgt := 14) hx hb dX6_begin_7 (by decide) (fun c_1 => ?_) (fun c_1 => ?_)
  · refine lv_iload_n hx hb dX6_begin_14 rfl (lv_at hl 2 rfl) ?_
    refine va_put (D := D) (ci := 5) (v := .int x1) (ty := .int) (C := RX6) (T := TX6) (N := 3) hx hb hts hi6 tyX6 tyX6_ok nmX6 hown hK hP hD hS 12 rfl rfl 2 (by decide) hw1 (fun _ h9 => h9) rfl (by decide +kernel) rfl rfl (Nat.le_of_ble_eq_true rfl) dX6_begin_15 (fun H locs hP hD hS => ?_)
    have hP : va_P D vwCl (CT cy a J (va_up (va_up I 385 x0) 386 x1) O (va_up R 13 (R 13)) RO (LL ++ Y)) H := hP
    have hD : va_D A (CT cy a J (va_up (va_up I 385 x0) 386 x1) O (va_up R 13 (R 13)) RO (LL ++ Y)) := hD
    have hi_2 : vp_in x1 17 := hx1
    refine lv_aload_n hx hb dX6_begin_18 rfl (lv_at hl 0 rfl) ?_
    refine va_get (D := D) (ci := 5) (v := .ref (a 13)) (C := RX6) (T := TX6) (N := 3) hx hb hts hi6 hown hK hP 12 rfl rfl 0 (by decide) hw2 (fun _ h9 => h9) rfl dX6_begin_19 ?_
    refine lv_iconst (v := 0) hx hb dX6_begin_22 (by decide) ?_
    refine kW_v (As := [.ref (a 13), .int 0]) (rest := []) ⟨hx, hb, hml, hown, hts⟩ (x_fill13 l D cy a _ J (va_up (va_up I 385 x0) 386 x1) O (va_up R 13 (R 13)) RO LL Y (0 : Int32)   ) (va_cwS 2 hts gX6_begin_J7_fill_53178 rfl rfl rfl (by decide +kernel) ⟨Nat.le_of_ble_eq_true rfl, Nat.le_of_ble_eq_true rfl⟩) hK hN hP hD hS hA rfl hl.1 rfl (Nat.le_of_ble_eq_true rfl) dX6_begin_23 ⟨Nat.le_of_ble_eq_true rfl, Nat.le_of_ble_eq_true rfl⟩ (fun u H locs hw hP hD hS => ?_)
    obtain ⟨w_4, hp_5, rfl⟩ := hw
    have hP : va_P D vwCl (CT cy a J (va_up (va_up I 385 x0) 386 x1) O (va_up R 13 w_4) RO (LL ++ Y)) H := hP
    have hD : va_D A (CT cy a J (va_up (va_up I 385 x0) 386 x1) O (va_up R 13 w_4) RO (LL ++ Y)) := hD
    exact wret_v hx hb hr hlocks (J, (va_up (va_up I 385 x0) 386 x1), O, (va_up R 13 w_4), RO, LL, Y) ⟨x0, x1, w_4, ⟨hi_2, (if_neg c_1).symm, rfl, hp_5⟩, rfl⟩ hP hD hS dX6_begin_26
  · refine lv_iconst (v := 0) hx hb dX6_begin_10 (by decide) ?_
    refine lv_goto (tgt := 15) hx hb dX6_begin_11 (by decide) ?_
    refine va_put (D := D) (ci := 5) (v := .int 0) (ty := .int) (C := RX6) (T := TX6) (N := 3) hx hb hts hi6 tyX6 tyX6_ok nmX6 hown hK hP hD hS 12 rfl rfl 2 (by decide) hw1 (fun _ h9 => h9) rfl (by decide +kernel) rfl rfl (Nat.le_of_ble_eq_true rfl) dX6_begin_15 (fun H locs hP hD hS => ?_)
    have hP : va_P D vwCl (CT cy a J (va_up (va_up I 385 x0) 386 0) O (va_up R 13 (R 13)) RO (LL ++ Y)) H := hP
    have hD : va_D A (CT cy a J (va_up (va_up I 385 x0) 386 0) O (va_up R 13 (R 13)) RO (LL ++ Y)) := hD
    have hi_6 : vp_in 0 17 := (by unfold vp_in; decide)
    refine lv_aload_n hx hb dX6_begin_18 rfl (lv_at hl 0 rfl) ?_
    refine va_get (D := D) (ci := 5) (v := .ref (a 13)) (C := RX6) (T := TX6) (N := 3) hx hb hts hi6 hown hK hP 12 rfl rfl 0 (by decide) hw2 (fun _ h9 => h9) rfl dX6_begin_19 ?_
    refine lv_iconst (v := 0) hx hb dX6_begin_22 (by decide) ?_
    refine kW_v (As := [.ref (a 13), .int 0]) (rest := []) ⟨hx, hb, hml, hown, hts⟩ (x_fill13 l D cy a _ J (va_up (va_up I 385 x0) 386 0) O (va_up R 13 (R 13)) RO LL Y (0 : Int32)   ) (va_cwS 2 hts gX6_begin_J7_fill_53178 rfl rfl rfl (by decide +kernel) ⟨Nat.le_of_ble_eq_true rfl, Nat.le_of_ble_eq_true rfl⟩) hK hN hP hD hS hA rfl hl.1 rfl (Nat.le_of_ble_eq_true rfl) dX6_begin_23 ⟨Nat.le_of_ble_eq_true rfl, Nat.le_of_ble_eq_true rfl⟩ (fun u H locs hw hP hD hS => ?_)
    obtain ⟨w_8, hp_9, rfl⟩ := hw
    have hP : va_P D vwCl (CT cy a J (va_up (va_up I 385 x0) 386 0) O (va_up R 13 w_8) RO (LL ++ Y)) H := hP
    have hD : va_D A (CT cy a J (va_up (va_up I 385 x0) 386 0) O (va_up R 13 w_8) RO (LL ++ Y)) := hD
    exact wret_v hx hb hr hlocks (J, (va_up (va_up I 385 x0) 386 0), O, (va_up R 13 w_8), RO, LL, Y) ⟨x0, 0, w_8, ⟨hi_6, (if_pos c_1).symm, rfl, hp_9⟩, rfl⟩ hP hD hS dX6_begin_26
theorem dX6_write_0 : decode cX6_write 0 = .ok (.iload_n 1, 1) := by decide +kernel
theorem dX6_write_1 : decode cX6_write 1 = .ok (.ifCond .lt 38, 3) := by decide +kernel
theorem dX6_write_39 : decode cX6_write 39 = .ok (.return_, 1) := by decide +kernel
theorem dX6_write_4 : decode cX6_write 4 = .ok (.iload_n 1, 1) := by decide +kernel
theorem dX6_write_5 : decode cX6_write 5 = .ok (.bipush 16, 2) := by decide +kernel
theorem dX6_write_7 : decode cX6_write 7 = .ok (.if_icmp .ge 32, 3) := by decide +kernel
theorem dX6_write_10 : decode cX6_write 10 = .ok (.aload_n 0, 1) := by decide +kernel
theorem dX6_write_11 : decode cX6_write 11 = .ok (.getfield 9, 3) := by decide +kernel
theorem dX6_write_14 : decode cX6_write 14 = .ok (.iload_n 1, 1) := by decide +kernel
theorem dX6_write_15 : decode cX6_write 15 = .ok (.aload_n 0, 1) := by decide +kernel
theorem dX6_write_16 : decode cX6_write 16 = .ok (.getfield 13, 3) := by decide +kernel
theorem dX6_write_19 : decode cX6_write 19 = .ok (.bipush 32, 2) := by decide +kernel
theorem dX6_write_21 : decode cX6_write 21 = .ok (.if_icmp .ne 7, 3) := by decide +kernel
theorem dX6_write_28 : decode cX6_write 28 = .ok (.iload_n 2, 1) := by decide +kernel
theorem dX6_write_29 : decode cX6_write 29 = .ok (.iconst 1, 1) := by decide +kernel
theorem dX6_write_30 : decode cX6_write 30 = .ok (.aload_n 0, 1) := by decide +kernel
theorem dX6_write_31 : decode cX6_write 31 = .ok (.getfield 13, 3) := by decide +kernel
theorem dX6_write_34 : decode cX6_write 34 = .ok (.ishl, 1) := by decide +kernel
theorem dX6_write_35 : decode cX6_write 35 = .ok (.iconst 1, 1) := by decide +kernel
theorem dX6_write_36 : decode cX6_write 36 = .ok (.isub, 1) := by decide +kernel
theorem dX6_write_37 : decode cX6_write 37 = .ok (.iand, 1) := by decide +kernel
theorem dX6_write_38 : decode cX6_write 38 = .ok (.iastore, 1) := by decide +kernel
theorem dX6_write_24 : decode cX6_write 24 = .ok (.iload_n 2, 1) := by decide +kernel
theorem dX6_write_25 : decode cX6_write 25 = .ok (.goto 13, 3) := by decide +kernel
set_option maxRecDepth 20000 in
theorem ihX6_write_6 : ∀ w ∈ u_ws RX6 TX6 3, w ∈ wsX6_write := fun _ h => List.mem_cons_of_mem _ (List.mem_append_right _ h)
set_option maxHeartbeats 4000000 in
set_option maxRecDepth 100000 in
theorem x_X6_write12 (l : Launch) (D : va_G) (cy : Nat → ClassId) (a : Nat → Nat) (sz : Nat) (J : Nat → Int64) (I : Nat → Int32) (O : Nat → Option Nat) (R : Nat → Nat → Int32) (RO : Nat → Nat → Option Nat) (LL : va_W) (Y : va_W) (x0 : Int32) (x1 : Int32) (hx0 : vp_in x0 16) : Met l yX6_write wsX6_write ({ frames := 0, cells := 0, slots := 0, locals := 0 }) (va_Pc [.ref (a 12), .int x0, .int x1] (PW D cy sz (CT cy a J I O R RO (LL ++ Y)))) (va_Qv (fun (u : TS) => ∃ (w0 : Nat → Int32), ((w0 = upd (R 13) x0.toNatClampNeg (if I 385 = 32 then x1 else x1 &&& (((1 : Int32) <<< (I 385 &&& 31)) - 1)))) ∧ u = (J, I, O, (va_up R 13 w0), RO, LL, Y)) (BW D (va_A (CT cy a J I O R RO (LL ++ Y)) sz) (CTu cy a)) (va_A (CT cy a J I O R RO (LL ++ Y)) sz)) 0 0 (va_A (CT cy a J I O R RO (LL ++ Y)) sz) := by
  refine Met.ofW (cc := cX6_write) (maxL := 3) (ret := none) (by decide) rfl ?_
  intro p e s m args below meth c s₁ B hml hv
  obtain ⟨rfl, rfl, hP, hK, hN, hD0⟩ := hv
  have hx := B.exec
  have hb := B.bytes
  have hr := B.returns
  have hts := atoms_spec (ws := wsX6_write) B.pre
  have hown : s.vm.findClass RX6 = some m.cls := findClass_of_methodNamed B.named
  have hlocks := B.notSynchronized
  have hw0 := hts (.fieldLink RX6 9 "ParquetLayer$Sheet" "numbers" "[I") (by decide +kernel)
  have hw1 := hts (.fieldLink RX6 13 "ParquetLayer$Sheet" "bits" "I") (by decide +kernel)
  have hi6 := ihX6_write_6
  have hD := hD0.self (sz := s.heap.size)
  generalize hAe : va_A (CT cy a J I O R RO (LL ++ Y)) s.heap.size = A at hD ⊢
  have hA : ∀ q : Nat, s.heap.size ≤ q → A q := fun q h => by rw [← hAe]; exact Or.inr h
  have hS : va_S A s.heap s.heap [] := va_S.rf
  have hl := lv_entry ([.ref (a 12), .int x0, .int x1]) (n := 3) (Nat.le_of_ble_eq_true rfl)
  rw [lg_entry_eq]
  generalize (lg_sl ([.ref (a 12), .int x0, .int x1]) ++ List.replicate (3 - (lg_sl ([.ref (a 12), .int x0, .int x1])).length) Slot.unset).toArray = ls at hl ⊢
  have hl : lv_has ls 3 [(0, .ref (a 12)), (1, .int x0), (2, .int x1)] := hl
  have hP : va_P D vwCl (CT cy a J I O (va_up R 13 (R 13)) RO (LL ++ Y)) s.heap := hP
  have hD : va_D A (CT cy a J I O (va_up R 13 (R 13)) RO (LL ++ Y)) := hD
  refine lv_iload_n hx hb dX6_write_0 rfl (lv_at hl 1 rfl) ?_
  refine lv_if_lt (tgt := 39) hx hb dX6_write_1 (by decide) (fun c_1 => ?_) (fun c_1 => ?_)
  · exact wret_v hx hb hr hlocks (J, I, O, (va_up R 13 (R 13)), RO, LL, Y) ⟨(R 13), (absurd c_1 (wr_0 hx0)), rfl⟩ hP hD hS dX6_write_39
  · refine lv_iload_n hx hb dX6_write_4 rfl (lv_at hl 1 rfl) ?_
    refine lv_bipush (v := 16) hx hb dX6_write_5 (by decide) ?_
    refine lv_icmp_ge (tgt := 39) hx hb dX6_write_7 (by decide) (fun c_2 => ?_) (fun c_2 => ?_)
    · exact wret_v hx hb hr hlocks (J, I, O, (va_up R 13 (R 13)), RO, LL, Y) ⟨(R 13), (absurd c_2 (wr_16 hx0)), rfl⟩ hP hD hS dX6_write_39
    · refine lv_aload_n hx hb dX6_write_10 rfl (lv_at hl 0 rfl) ?_
      refine va_get (D := D) (ci := 5) (v := .ref (a 13)) (C := RX6) (T := TX6) (N := 3) hx hb hts hi6 hown hK hP 12 rfl rfl 0 (by decide) hw0 (fun _ h9 => h9) rfl dX6_write_11 ?_
      refine lv_iload_n hx hb dX6_write_14 rfl (lv_at hl 1 rfl) ?_
      refine lv_aload_n hx hb dX6_write_15 rfl (lv_at hl 0 rfl) ?_
      refine va_get (D := D) (ci := 5) (v := .int (I 385)) (C := RX6) (T := TX6) (N := 3) hx hb hts hi6 hown hK hP 12 rfl rfl 1 (by decide) hw1 (fun _ h9 => h9) rfl dX6_write_16 ?_
      refine lv_bipush (v := 32) hx hb dX6_write_19 (by decide) ?_
      refine lv_icmp_ne (tgt := 28) hx hb dX6_write_21 (by decide) (fun c_3 => ?_) (fun c_3 => ?_)
      · refine lv_iload_n hx hb dX6_write_28 rfl (lv_at hl 2 rfl) ?_
        refine lv_iconst (v := 1) hx hb dX6_write_29 (by decide) ?_
        refine lv_aload_n hx hb dX6_write_30 rfl (lv_at hl 0 rfl) ?_
        refine va_get (D := D) (ci := 5) (v := .int (I 385)) (C := RX6) (T := TX6) (N := 3) hx hb hts hi6 hown hK hP 12 rfl rfl 1 (by decide) hw1 (fun _ h9 => h9) rfl dX6_write_31 ?_
        refine lv_ishl hx hb dX6_write_34 ?_
        refine lv_iconst (v := 1) hx hb dX6_write_35 (by decide) ?_
        refine lv_isub hx hb dX6_write_36 ?_
        refine lv_iand hx hb dX6_write_37 ?_
        refine va_iast hx hb hK hP hD hS 13 0 rfl rfl hx0 dX6_write_38 (fun H locs hP hD hS => ?_)
        have hP : va_P D vwCl (CT cy a J I O (va_up R 13 (upd (R 13) x0.toNatClampNeg (x1 &&& ((1 <<< ((I 385) &&& 31)) - 1)))) RO (LL ++ Y)) H := hP
        have hD : va_D A (CT cy a J I O (va_up R 13 (upd (R 13) x0.toNatClampNeg (x1 &&& ((1 <<< ((I 385) &&& 31)) - 1)))) RO (LL ++ Y)) := hD
        exact wret_v hx hb hr hlocks (J, I, O, (va_up R 13 (upd (R 13) x0.toNatClampNeg (x1 &&& ((1 <<< ((I 385) &&& 31)) - 1)))), RO, LL, Y) ⟨(upd (R 13) x0.toNatClampNeg (x1 &&& ((1 <<< ((I 385) &&& 31)) - 1))), (by rw [if_neg c_3]), rfl⟩ hP hD hS dX6_write_39
      · refine lv_iload_n hx hb dX6_write_24 rfl (lv_at hl 2 rfl) ?_
        refine lv_goto (tgt := 38) hx hb dX6_write_25 (by decide) ?_
        refine va_iast hx hb hK hP hD hS 13 0 rfl rfl hx0 dX6_write_38 (fun H locs hP hD hS => ?_)
        have hP : va_P D vwCl (CT cy a J I O (va_up R 13 (upd (R 13) x0.toNatClampNeg x1)) RO (LL ++ Y)) H := hP
        have hD : va_D A (CT cy a J I O (va_up R 13 (upd (R 13) x0.toNatClampNeg x1)) RO (LL ++ Y)) := hD
        exact wret_v hx hb hr hlocks (J, I, O, (va_up R 13 (upd (R 13) x0.toNatClampNeg x1)), RO, LL, Y) ⟨(upd (R 13) x0.toNatClampNeg x1), (by rw [if_pos c_3]), rfl⟩ hP hD hS dX6_write_39
theorem dX6_toldFields_4 : decode cX6_toldFields 4 = .ok (.iload_n 3, 1) := by decide +kernel
theorem dX6_toldFields_5 : decode cX6_toldFields 5 = .ok (.bipush 8, 2) := by decide +kernel
theorem dX6_toldFields_7 : decode cX6_toldFields 7 = .ok (.if_icmp .ge 36, 3) := by decide +kernel
theorem dX6_toldFields_43 : decode cX6_toldFields 43 = .ok (.lload_n 1, 1) := by decide +kernel
theorem dX6_toldFields_44 : decode cX6_toldFields 44 = .ok (.lreturn, 1) := by decide +kernel
theorem dX6_toldFields_10 : decode cX6_toldFields 10 = .ok (.iload_n 3, 1) := by decide +kernel
theorem dX6_toldFields_11 : decode cX6_toldFields 11 = .ok (.aload_n 0, 1) := by decide +kernel
theorem dX6_toldFields_12 : decode cX6_toldFields 12 = .ok (.getfield 17, 3) := by decide +kernel
theorem dX6_toldFields_15 : decode cX6_toldFields 15 = .ok (.if_icmp .ge 28, 3) := by decide +kernel
theorem dX6_toldFields_18 : decode cX6_toldFields 18 = .ok (.lload_n 1, 1) := by decide +kernel
theorem dX6_toldFields_19 : decode cX6_toldFields 19 = .ok (.aload_n 0, 1) := by decide +kernel
theorem dX6_toldFields_20 : decode cX6_toldFields 20 = .ok (.getfield 9, 3) := by decide +kernel
theorem dX6_toldFields_23 : decode cX6_toldFields 23 = .ok (.iload_n 3, 1) := by decide +kernel
theorem dX6_toldFields_24 : decode cX6_toldFields 24 = .ok (.iaload, 1) := by decide +kernel
theorem dX6_toldFields_25 : decode cX6_toldFields 25 = .ok (.sipush 255, 3) := by decide +kernel
theorem dX6_toldFields_28 : decode cX6_toldFields 28 = .ok (.iand, 1) := by decide +kernel
theorem dX6_toldFields_29 : decode cX6_toldFields 29 = .ok (.i2l, 1) := by decide +kernel
theorem dX6_toldFields_30 : decode cX6_toldFields 30 = .ok (.bipush 8, 2) := by decide +kernel
theorem dX6_toldFields_32 : decode cX6_toldFields 32 = .ok (.iload_n 3, 1) := by decide +kernel
theorem dX6_toldFields_33 : decode cX6_toldFields 33 = .ok (.imul, 1) := by decide +kernel
theorem dX6_toldFields_34 : decode cX6_toldFields 34 = .ok (.lshl, 1) := by decide +kernel
theorem dX6_toldFields_35 : decode cX6_toldFields 35 = .ok (.lor, 1) := by decide +kernel
theorem dX6_toldFields_36 : decode cX6_toldFields 36 = .ok (.lstore_n 1, 1) := by decide +kernel
theorem dX6_toldFields_37 : decode cX6_toldFields 37 = .ok (.iinc 3 1, 3) := by decide +kernel
theorem dX6_toldFields_40 : decode cX6_toldFields 40 = .ok (.goto (-36), 3) := by decide +kernel
theorem dX6_toldFields_0 : decode cX6_toldFields 0 = .ok (.lconst 0, 1) := by decide +kernel
theorem dX6_toldFields_1 : decode cX6_toldFields 1 = .ok (.lstore_n 1, 1) := by decide +kernel
theorem dX6_toldFields_2 : decode cX6_toldFields 2 = .ok (.iconst 0, 1) := by decide +kernel
theorem dX6_toldFields_3 : decode cX6_toldFields 3 = .ok (.istore_n 3, 1) := by decide +kernel
set_option maxRecDepth 20000 in
theorem ihX6_toldFields_6 : ∀ w ∈ u_ws RX6 TX6 3, w ∈ wsX6_toldFields := fun _ h => List.mem_cons_of_mem _ (List.mem_append_right _ h)
set_option maxHeartbeats 4000000 in
set_option maxRecDepth 100000 in
theorem x_X6_toldFields12 (l : Launch) (D : va_G) (cy : Nat → ClassId) (a : Nat → Nat) (sz : Nat) (J : Nat → Int64) (I : Nat → Int32) (O : Nat → Option Nat) (R : Nat → Nat → Int32) (RO : Nat → Nat → Option Nat) (LL : va_W) (Y : va_W)  (hz : vp_in (I 386) 17) : Met l yX6_toldFields wsX6_toldFields ({ frames := 0, cells := 0, slots := 0, locals := 0 }) (va_Pc [.ref (a 12)] (PW D cy sz (CT cy a J I O R RO (LL ++ Y)))) (vp_Sl (fun r => r = plT (fun y => (R 13) (nI y).toNatClampNeg &&& 255) (plN (I 386)))) 0 0 (fun _ => False) := by
  refine Met.ofW (cc := cX6_toldFields) (maxL := 4) (ret := (some .long)) (by decide) rfl ?_
  intro p e s m args below meth c s₁ B hml hv
  obtain ⟨rfl, rfl, hP, hK, hN, hD0⟩ := hv
  have hx := B.exec
  have hb := B.bytes
  have hr := B.returns
  have hts := atoms_spec (ws := wsX6_toldFields) B.pre
  have hown : s.vm.findClass RX6 = some m.cls := findClass_of_methodNamed B.named
  have hlocks := B.notSynchronized
  have hw0 := hts (.fieldLink RX6 17 "ParquetLayer$Sheet" "size" "I") (by decide +kernel)
  have hw1 := hts (.fieldLink RX6 9 "ParquetLayer$Sheet" "numbers" "[I") (by decide +kernel)
  have hi6 := ihX6_toldFields_6
  have hD := hD0
  have hl := lv_entry ([.ref (a 12)]) (n := 4) (Nat.le_of_ble_eq_true rfl)
  rw [lg_entry_eq]
  generalize (lg_sl ([.ref (a 12)]) ++ List.replicate (4 - (lg_sl ([.ref (a 12)])).length) Slot.unset).toArray = ls at hl ⊢
  have hl : lv_has ls 4 [(0, .ref (a 12))] := hl
  have lp4 : ∀ (n4 : Nat), ∀ (i : Nat), (i ≤ 8) → (i ≤ (I 386).toNatClampNeg) → (8 - i) < n4 → ∀ (ls : Array Slot), lv_has ls 4 [(0, .ref (a 12)), (1, .long (plT (fun y => R 13 (nI y).toNatClampNeg &&& 255) i)), (3, .int (nI i))] → W p l e (headSpec wsX6_toldFields ({ frames := 0, cells := 0, slots := 0, locals := 0 })).room s m ([.ref (a 12)] : List Value).toArray below meth c s.heap [] 0 0 (MQ below (vp_Sl (fun r => r = plT (fun y => (R 13) (nI y).toNatClampNeg &&& 255) (plN (I 386)))) ([.ref (a 12)] : List Value).toArray s 0 0 (fun _ => False)) (F0 m 4 ls []) := by
    intro n4
    induction n4 with
    | zero => intro i hi hks hn; exact absurd hn (Nat.not_lt_zero _)
    | succ n4 ih4 =>
      intro i hi hks hn4 ls hl
      refine lv_iload_n hx hb dX6_toldFields_4 rfl (lv_at hl 2 rfl) ?_
      refine lv_bipush (v := 8) hx hb dX6_toldFields_5 (by decide) ?_
      refine lv_icmp_ge (tgt := 43) hx hb dX6_toldFields_7 (by decide) (fun c_1 => ?_) (fun c_1 => ?_)
      · have hie := ctr_ge (N := 8) (by decide) hi c_1
        refine lv_lload_n hx hb dX6_toldFields_43 rfl (lv_at hl 1 rfl) ?_
        exact pret_l hx hb hr hlocks (congrArg (plT _) (plN_1 hks hie)) dX6_toldFields_44
      · have hlt_i := ctr_lt (N := 8) (by decide) hi c_1
        refine lv_iload_n hx hb dX6_toldFields_10 rfl (lv_at hl 2 rfl) ?_
        refine lv_aload_n hx hb dX6_toldFields_11 rfl (lv_at hl 0 rfl) ?_
        refine va_get (D := D) (ci := 5) (v := .int (I 386)) (C := RX6) (T := TX6) (N := 3) hx hb hts hi6 hown hK hP 12 rfl rfl 2 (by decide) hw0 (fun _ h9 => h9) rfl dX6_toldFields_12 ?_
        refine lv_icmp_ge (tgt := 43) hx hb dX6_toldFields_15 (by decide) (fun c_2 => ?_) (fun c_2 => ?_)
        · refine lv_lload_n hx hb dX6_toldFields_43 rfl (lv_at hl 1 rfl) ?_
          exact pret_l hx hb hr hlocks (congrArg (plT _) (plN_2 hz hks hlt_i c_2)) dX6_toldFields_44
        · refine lv_lload_n hx hb dX6_toldFields_18 rfl (lv_at hl 1 rfl) ?_
          refine lv_aload_n hx hb dX6_toldFields_19 rfl (lv_at hl 0 rfl) ?_
          refine va_get (D := D) (ci := 5) (v := .ref (a 13)) (C := RX6) (T := TX6) (N := 3) hx hb hts hi6 hown hK hP 12 rfl rfl 0 (by decide) hw1 (fun _ h9 => h9) rfl dX6_toldFields_20 ?_
          refine lv_iload_n hx hb dX6_toldFields_23 rfl (lv_at hl 2 rfl) ?_
          refine va_iald hx hb hK hP 13 0 rfl rfl (vp_in_nI (by omega) (by decide)) dX6_toldFields_24 ?_
          refine lv_sipush (v := 255) hx hb dX6_toldFields_25 (by decide) ?_
          refine lv_iand hx hb dX6_toldFields_28 ?_
          refine lv_i2l (v := (((R 13) (nI i).toNatClampNeg) &&& 255 : Int32).toInt64) hx hb dX6_toldFields_29 rfl ?_
          refine lv_bipush (v := 8) hx hb dX6_toldFields_30 (by decide) ?_
          refine lv_iload_n hx hb dX6_toldFields_32 rfl (lv_at hl 2 rfl) ?_
          refine lv_imul hx hb dX6_toldFields_33 ?_
          refine lv_lshl (v := ((((R 13) (nI i).toNatClampNeg) &&& 255 : Int32).toInt64) <<< ((8 * (nI i) : Int32).toInt64 &&& 63)) hx hb dX6_toldFields_34 rfl ?_
          refine lv_lor hx hb dX6_toldFields_35 ?_
          refine lv_lstore_n (lv' := [(1, .long ((plT (fun y => R 13 (nI y).toNatClampNeg &&& 255) i) ||| (((((R 13) (nI i).toNatClampNeg) &&& 255 : Int32).toInt64) <<< ((8 * (nI i) : Int32).toInt64 &&& 63)))), (0, .ref (a 12)), (3, .int (nI i))]) hx hb dX6_toldFields_36 rfl hl (by decide) rfl (fun ls hl => ?_)
          refine lv_iinc (v := nI (i + 1)) (lv' := [(3, .int (nI (i + 1))), (1, .long ((plT (fun y => R 13 (nI y).toNatClampNeg &&& 255) i) ||| (((((R 13) (nI i).toNatClampNeg) &&& 255 : Int32).toInt64) <<< ((8 * (nI i) : Int32).toInt64 &&& 63)))), (0, .ref (a 12))]) hx hb dX6_toldFields_37 hl (k := 2) rfl (nI_1 _) (by decide) rfl (fun ls hl => ?_)
          refine lv_goto (tgt := 4) hx hb dX6_toldFields_40 (by decide) ?_
          exact ih4 (i + 1) hlt_i (cl_lt hks c_2) (lt_dec hlt_i hn4) ls (lv_sub hl [2, 1, 0] rfl)
  refine lv_lconst (v := 0) hx hb dX6_toldFields_0 (by decide) ?_
  refine lv_lstore_n (lv' := [(1, .long 0), (0, .ref (a 12))]) hx hb dX6_toldFields_1 rfl hl (by decide) rfl (fun ls hl => ?_)
  refine lv_iconst (v := 0) hx hb dX6_toldFields_2 (by decide) ?_
  refine lv_istore_n (lv' := [(3, .int 0), (1, .long 0), (0, .ref (a 12))]) hx hb dX6_toldFields_3 rfl hl (by decide) rfl (fun ls hl => ?_)
  exact lp4 _ 0 (by omega) (Nat.zero_le _) (Nat.lt_succ_self _) ls (lv_sub hl [2, 1, 0] rfl)
set_option maxHeartbeats 4000000 in
set_option maxRecDepth 100000 in
theorem x_X6_isMissing14 (l : Launch) (D : va_G) (cy : Nat → ClassId) (a : Nat → Nat) (sz : Nat) (J : Nat → Int64) (I : Nat → Int32) (O : Nat → Option Nat) (R : Nat → Nat → Int32) (RO : Nat → Nat → Option Nat) (LL : va_W) (Y : va_W)  : Met l yX6_isMissing wsX6_isMissing ({ frames := 0, cells := 0, slots := 0, locals := 0 }) (va_Pc [.ref (a 14)] (PW D cy sz (CT cy a J I O R RO (LL ++ Y)))) (vp_Si (fun r => r = bI (decide ((I 449) = 0)))) 0 0 (fun _ => False) := by
  refine Met.ofW (cc := cX6_isMissing) (maxL := 1) (ret := (some .boolean)) (by decide) rfl ?_
  intro p e s m args below meth c s₁ B hml hv
  obtain ⟨rfl, rfl, hP, hK, hN, hD0⟩ := hv
  have hx := B.exec
  have hb := B.bytes
  have hr := B.returns
  have hts := atoms_spec (ws := wsX6_isMissing) B.pre
  have hown : s.vm.findClass RX6 = some m.cls := findClass_of_methodNamed B.named
  have hlocks := B.notSynchronized
  have hw0 := hts (.fieldLink RX6 13 "ParquetLayer$Sheet" "bits" "I") (by decide +kernel)
  have hi6 := ihX6_isMissing_6
  have hD := hD0
  have hl := lv_entry ([.ref (a 14)]) (n := 1) (Nat.le_of_ble_eq_true rfl)
  rw [lg_entry_eq]
  generalize (lg_sl ([.ref (a 14)]) ++ List.replicate (1 - (lg_sl ([.ref (a 14)])).length) Slot.unset).toArray = ls at hl ⊢
  have hl : lv_has ls 1 [(0, .ref (a 14))] := hl
  refine lv_aload_n hx hb dX6_isMissing_0 rfl (lv_at hl 0 rfl) ?_
  refine va_get (D := D) (ci := 5) (v := .int (I 449)) (C := RX6) (T := TX6) (N := 3) hx hb hts hi6 hown hK hP 14 rfl rfl 1 (by decide) hw0 (fun _ h9 => h9) rfl dX6_isMissing_1 ?_
  refine lv_if_ne (tgt := 11) hx hb dX6_isMissing_4 (by decide) (fun c_1 => ?_) (fun c_1 => ?_)
  · refine lv_iconst (v := 0) hx hb dX6_isMissing_11 (by decide) ?_
    exact pret_z hx hb hr hlocks (bd_f c_1) dX6_isMissing_12
  · refine lv_iconst (v := 1) hx hb dX6_isMissing_7 (by decide) ?_
    refine lv_goto (tgt := 12) hx hb dX6_isMissing_8 (by decide) ?_
    exact pret_z hx hb hr hlocks (bd_t c_1) dX6_isMissing_12
set_option maxHeartbeats 4000000 in
set_option maxRecDepth 100000 in
theorem x_X6_hasRange14 (l : Launch) (D : va_G) (cy : Nat → ClassId) (a : Nat → Nat) (sz : Nat) (J : Nat → Int64) (I : Nat → Int32) (O : Nat → Option Nat) (R : Nat → Nat → Int32) (RO : Nat → Nat → Option Nat) (LL : va_W) (Y : va_W) (x0 : Int32) (x1 : Int32) : Met l yX6_hasRange wsX6_hasRange ({ frames := 0, cells := 0, slots := 0, locals := 0 }) (va_Pc [.ref (a 14), .int x0, .int x1] (PW D cy sz (CT cy a J I O R RO (LL ++ Y)))) (vp_Si (fun r => r = bI (g_rng x0 x1 (I 450)))) 0 0 (fun _ => False) := by
  refine Met.ofW (cc := cX6_hasRange) (maxL := 3) (ret := (some .boolean)) (by decide) rfl ?_
  intro p e s m args below meth c s₁ B hml hv
  obtain ⟨rfl, rfl, hP, hK, hN, hD0⟩ := hv
  have hx := B.exec
  have hb := B.bytes
  have hr := B.returns
  have hts := atoms_spec (ws := wsX6_hasRange) B.pre
  have hown : s.vm.findClass RX6 = some m.cls := findClass_of_methodNamed B.named
  have hlocks := B.notSynchronized
  have hw0 := hts (.fieldLink RX6 17 "ParquetLayer$Sheet" "size" "I") (by decide +kernel)
  have hi6 := ihX6_hasRange_6
  have hD := hD0
  have hl := lv_entry ([.ref (a 14), .int x0, .int x1]) (n := 3) (Nat.le_of_ble_eq_true rfl)
  rw [lg_entry_eq]
  generalize (lg_sl ([.ref (a 14), .int x0, .int x1]) ++ List.replicate (3 - (lg_sl ([.ref (a 14), .int x0, .int x1])).length) Slot.unset).toArray = ls at hl ⊢
  have hl : lv_has ls 3 [(0, .ref (a 14)), (1, .int x0), (2, .int x1)] := hl
  refine lv_iload_n hx hb dX6_hasRange_0 rfl (lv_at hl 1 rfl) ?_
  refine lv_if_lt (tgt := 30) hx hb dX6_hasRange_1 (by decide) (fun c_1 => ?_) (fun c_1 => ?_)
  · refine lv_iconst (v := 0) hx hb dX6_hasRange_30 (by decide) ?_
    exact pret_z hx hb hr hlocks (rn_f (Or.inl c_1)) dX6_hasRange_31
  · refine lv_iload_n hx hb dX6_hasRange_4 rfl (lv_at hl 2 rfl) ?_
    refine lv_if_lt (tgt := 30) hx hb dX6_hasRange_5 (by decide) (fun c_2 => ?_) (fun c_2 => ?_)
    · refine lv_iconst (v := 0) hx hb dX6_hasRange_30 (by decide) ?_
      exact pret_z hx hb hr hlocks (rn_f (Or.inr (Or.inl c_2))) dX6_hasRange_31
    · refine lv_iload_n hx hb dX6_hasRange_8 rfl (lv_at hl 2 rfl) ?_
      refine lv_aload_n hx hb dX6_hasRange_9 rfl (lv_at hl 0 rfl) ?_
      refine va_get (D := D) (ci := 5) (v := .int (I 450)) (C := RX6) (T := TX6) (N := 3) hx hb hts hi6 hown hK hP 14 rfl rfl 2 (by decide) hw0 (fun _ h9 => h9) rfl dX6_hasRange_10 ?_
      refine lv_icmp_gt (tgt := 30) hx hb dX6_hasRange_13 (by decide) (fun c_3 => ?_) (fun c_3 => ?_)
      · refine lv_iconst (v := 0) hx hb dX6_hasRange_30 (by decide) ?_
        exact pret_z hx hb hr hlocks (rn_f (Or.inr (Or.inr (Or.inl c_3)))) dX6_hasRange_31
      · refine lv_iload_n hx hb dX6_hasRange_16 rfl (lv_at hl 1 rfl) ?_
        refine lv_aload_n hx hb dX6_hasRange_17 rfl (lv_at hl 0 rfl) ?_
        refine va_get (D := D) (ci := 5) (v := .int (I 450)) (C := RX6) (T := TX6) (N := 3) hx hb hts hi6 hown hK hP 14 rfl rfl 2 (by decide) hw0 (fun _ h9 => h9) rfl dX6_hasRange_18 ?_
        refine lv_iload_n hx hb dX6_hasRange_21 rfl (lv_at hl 2 rfl) ?_
        refine lv_isub hx hb dX6_hasRange_22 ?_
        refine lv_icmp_gt (tgt := 30) hx hb dX6_hasRange_23 (by decide) (fun c_4 => ?_) (fun c_4 => ?_)
        · refine lv_iconst (v := 0) hx hb dX6_hasRange_30 (by decide) ?_
          exact pret_z hx hb hr hlocks (rn_f (Or.inr (Or.inr (Or.inr c_4)))) dX6_hasRange_31
        · refine lv_iconst (v := 1) hx hb dX6_hasRange_26 (by decide) ?_
          refine lv_goto (tgt := 31) hx hb dX6_hasRange_27 (by decide) ?_
          exact pret_z hx hb hr hlocks (rn_t c_1 c_2 c_3 c_4) dX6_hasRange_31
set_option maxHeartbeats 4000000 in
set_option maxRecDepth 100000 in
theorem x_X6_begin14 (l : Launch) (D : va_G) (cy : Nat → ClassId) (a : Nat → Nat) (sz : Nat) (J : Nat → Int64) (I : Nat → Int32) (O : Nat → Option Nat) (R : Nat → Nat → Int32) (RO : Nat → Nat → Option Nat) (LL : va_W) (Y : va_W) (x0 : Int32) (x1 : Int32) (hx1 : vp_in x1 17) (hM : CI a Y I O RO) : Met l yX6_begin wsX6_begin ({ frames := 1, cells := 0, slots := 0, locals := 23 }) (va_Pc [.ref (a 14), .int x0, .int x1] (PW D cy sz (CT cy a J I O R RO (LL ++ Y)))) (va_Qv (fun (u : TS) => ∃ (w0 : Int32), ∃ (w1 : Int32), ∃ (w2 : Nat → Int32), ((vp_in w1 17) ∧ (w1 = (if x0 = 0 then 0 else x1)) ∧ (w0 = x0) ∧ (∀ p, p < 16 → w2 p = 0)) ∧ u = (J, (va_up (va_up I 449 w0) 450 w1), O, (va_up R 15 w2), RO, LL, Y)) (BW D (va_A (CT cy a J I O R RO (LL ++ Y)) sz) (CTu cy a)) (va_A (CT cy a J I O R RO (LL ++ Y)) sz)) 0 0 (va_A (CT cy a J I O R RO (LL ++ Y)) sz) := by
  refine Met.ofW (cc := cX6_begin) (maxL := 3) (ret := none) (by decide) rfl ?_
  intro p e s m args below meth c s₁ B hml hv
  obtain ⟨rfl, rfl, hP, hK, hN, hD0⟩ := hv
  have hx := B.exec
  have hb := B.bytes
  have hr := B.returns
  have hts := atoms_spec (ws := wsX6_begin) B.pre
  have hown : s.vm.findClass RX6 = some m.cls := findClass_of_methodNamed B.named
  have hlocks := B.notSynchronized
  have hw0 := hts (.fieldLink RX6 13 "ParquetLayer$Sheet" "bits" "I") (by decide +kernel)
  have hw1 := hts (.fieldLink RX6 17 "ParquetLayer$Sheet" "size" "I") (by decide +kernel)
  have hw2 := hts (.fieldLink RX6 9 "ParquetLayer$Sheet" "numbers" "[I") (by decide +kernel)
  have hi6 := ihX6_begin_6
  have hD := hD0.self (sz := s.heap.size)
  generalize hAe : va_A (CT cy a J I O R RO (LL ++ Y)) s.heap.size = A at hD ⊢
  have hA : ∀ q : Nat, s.heap.size ≤ q → A q := fun q h => by rw [← hAe]; exact Or.inr h
  have hS : va_S A s.heap s.heap [] := va_S.rf
  have hl := lv_entry ([.ref (a 14), .int x0, .int x1]) (n := 3) (Nat.le_of_ble_eq_true rfl)
  rw [lg_entry_eq]
  generalize (lg_sl ([.ref (a 14), .int x0, .int x1]) ++ List.replicate (3 - (lg_sl ([.ref (a 14), .int x0, .int x1])).length) Slot.unset).toArray = ls at hl ⊢
  have hl : lv_has ls 3 [(0, .ref (a 14)), (1, .int x0), (2, .int x1)] := hl
  have hRO0 := hM.2.2.2.2.2.2.2.2.1
  have hRO1 := hM.2.2.2.2.2.2.2.2.2.1
  have hRO2 := hM.2.2.2.2.2.2.2.2.2.2.1
  have hRO3 := hM.2.2.2.2.2.2.2.2.2.2.2
  have hP : va_P D vwCl (CT cy a J (va_up (va_up I 449 (I 449)) 450 (I 450)) O (va_up R 15 (R 15)) RO (LL ++ Y)) s.heap := hP
  have hD : va_D A (CT cy a J (va_up (va_up I 449 (I 449)) 450 (I 450)) O (va_up R 15 (R 15)) RO (LL ++ Y)) := hD
  refine lv_aload_n hx hb dX6_begin_0 rfl (lv_at hl 0 rfl) ?_
  refine lv_iload_n hx hb dX6_begin_1 rfl (lv_at hl 1 rfl) ?_
  refine va_put (D := D) (ci := 5) (v := .int x0) (ty := .int) (C := RX6) (T := TX6) (N := 3) hx hb hts hi6 tyX6 tyX6_ok nmX6 hown hK hP hD hS 14 rfl rfl 1 (by decide) hw0 (fun _ h9 => h9) rfl (by decide +kernel) rfl rfl (Nat.le_of_ble_eq_true rfl) dX6_begin_2 (fun H locs hP hD hS => ?_)
  have hP : va_P D vwCl (CT cy a J (va_up (va_up I 449 x0) 450 (I 450)) O (va_up R 15 (R 15)) RO (LL ++ Y)) H := hP
  have hD : va_D A (CT cy a J (va_up (va_up I 449 x0) 450 (I 450)) O (va_up R 15 (R 15)) RO (LL ++ Y)) := hD
  refine lv_aload_n hx hb dX6_begin_5 rfl (lv_at hl 0 rfl) ?_
  refine lv_iload_n hx hb dX6_begin_6 rfl (lv_at hl 1 rfl) ?_
  refine lv_if_ne (tgt := 14) hx hb dX6_begin_7 (by decide) (fun c_1 => ?_) (fun c_1 => ?_)
  · refine lv_iload_n hx hb dX6_begin_14 rfl (lv_at hl 2 rfl) ?_
    refine va_put (D := D) (ci := 5) (v := .int x1) (ty := .int) (C := RX6) (T := TX6) (N := 3) hx hb hts hi6 tyX6 tyX6_ok nmX6 hown hK hP hD hS 14 rfl rfl 2 (by decide) hw1 (fun _ h9 => h9) rfl (by decide +kernel) rfl rfl (Nat.le_of_ble_eq_true rfl) dX6_begin_15 (fun H locs hP hD hS => ?_)
    have hP : va_P D vwCl (CT cy a J (va_up (va_up I 449 x0) 450 x1) O (va_up R 15 (R 15)) RO (LL ++ Y)) H := hP
    have hD : va_D A (CT cy a J (va_up (va_up I 449 x0) 450 x1) O (va_up R 15 (R 15)) RO (LL ++ Y)) := hD
    have hi_2 : vp_in x1 17 := hx1
    refine lv_aload_n hx hb dX6_begin_18 rfl (lv_at hl 0 rfl) ?_
    refine va_get (D := D) (ci := 5) (v := .ref (a 15)) (C := RX6) (T := TX6) (N := 3) hx hb hts hi6 hown hK hP 14 rfl rfl 0 (by decide) hw2 (fun _ h9 => h9) rfl dX6_begin_19 ?_
    refine lv_iconst (v := 0) hx hb dX6_begin_22 (by decide) ?_
    refine kW_v (As := [.ref (a 15), .int 0]) (rest := []) ⟨hx, hb, hml, hown, hts⟩ (x_fill15 l D cy a _ J (va_up (va_up I 449 x0) 450 x1) O (va_up R 15 (R 15)) RO LL Y (0 : Int32)   ) (va_cwS 2 hts gX6_begin_J7_fill_53178 rfl rfl rfl (by decide +kernel) ⟨Nat.le_of_ble_eq_true rfl, Nat.le_of_ble_eq_true rfl⟩) hK hN hP hD hS hA rfl hl.1 rfl (Nat.le_of_ble_eq_true rfl) dX6_begin_23 ⟨Nat.le_of_ble_eq_true rfl, Nat.le_of_ble_eq_true rfl⟩ (fun u H locs hw hP hD hS => ?_)
    obtain ⟨w_4, hp_5, rfl⟩ := hw
    have hP : va_P D vwCl (CT cy a J (va_up (va_up I 449 x0) 450 x1) O (va_up R 15 w_4) RO (LL ++ Y)) H := hP
    have hD : va_D A (CT cy a J (va_up (va_up I 449 x0) 450 x1) O (va_up R 15 w_4) RO (LL ++ Y)) := hD
    exact wret_v hx hb hr hlocks (J, (va_up (va_up I 449 x0) 450 x1), O, (va_up R 15 w_4), RO, LL, Y) ⟨x0, x1, w_4, ⟨hi_2, (if_neg c_1).symm, rfl, hp_5⟩, rfl⟩ hP hD hS dX6_begin_26
  · refine lv_iconst (v := 0) hx hb dX6_begin_10 (by decide) ?_
    refine lv_goto (tgt := 15) hx hb dX6_begin_11 (by decide) ?_
    refine va_put (D := D) (ci := 5) (v := .int 0) (ty := .int) (C := RX6) (T := TX6) (N := 3) hx hb hts hi6 tyX6 tyX6_ok nmX6 hown hK hP hD hS 14 rfl rfl 2 (by decide) hw1 (fun _ h9 => h9) rfl (by decide +kernel) rfl rfl (Nat.le_of_ble_eq_true rfl) dX6_begin_15 (fun H locs hP hD hS => ?_)
    have hP : va_P D vwCl (CT cy a J (va_up (va_up I 449 x0) 450 0) O (va_up R 15 (R 15)) RO (LL ++ Y)) H := hP
    have hD : va_D A (CT cy a J (va_up (va_up I 449 x0) 450 0) O (va_up R 15 (R 15)) RO (LL ++ Y)) := hD
    have hi_6 : vp_in 0 17 := (by unfold vp_in; decide)
    refine lv_aload_n hx hb dX6_begin_18 rfl (lv_at hl 0 rfl) ?_
    refine va_get (D := D) (ci := 5) (v := .ref (a 15)) (C := RX6) (T := TX6) (N := 3) hx hb hts hi6 hown hK hP 14 rfl rfl 0 (by decide) hw2 (fun _ h9 => h9) rfl dX6_begin_19 ?_
    refine lv_iconst (v := 0) hx hb dX6_begin_22 (by decide) ?_
    refine kW_v (As := [.ref (a 15), .int 0]) (rest := []) ⟨hx, hb, hml, hown, hts⟩ (x_fill15 l D cy a _ J (va_up (va_up I 449 x0) 450 0) O (va_up R 15 (R 15)) RO LL Y (0 : Int32)   ) (va_cwS 2 hts gX6_begin_J7_fill_53178 rfl rfl rfl (by decide +kernel) ⟨Nat.le_of_ble_eq_true rfl, Nat.le_of_ble_eq_true rfl⟩) hK hN hP hD hS hA rfl hl.1 rfl (Nat.le_of_ble_eq_true rfl) dX6_begin_23 ⟨Nat.le_of_ble_eq_true rfl, Nat.le_of_ble_eq_true rfl⟩ (fun u H locs hw hP hD hS => ?_)
    obtain ⟨w_8, hp_9, rfl⟩ := hw
    have hP : va_P D vwCl (CT cy a J (va_up (va_up I 449 x0) 450 0) O (va_up R 15 w_8) RO (LL ++ Y)) H := hP
    have hD : va_D A (CT cy a J (va_up (va_up I 449 x0) 450 0) O (va_up R 15 w_8) RO (LL ++ Y)) := hD
    exact wret_v hx hb hr hlocks (J, (va_up (va_up I 449 x0) 450 0), O, (va_up R 15 w_8), RO, LL, Y) ⟨x0, 0, w_8, ⟨hi_6, (if_pos c_1).symm, rfl, hp_9⟩, rfl⟩ hP hD hS dX6_begin_26
set_option maxHeartbeats 4000000 in
set_option maxRecDepth 100000 in
theorem x_X6_write14 (l : Launch) (D : va_G) (cy : Nat → ClassId) (a : Nat → Nat) (sz : Nat) (J : Nat → Int64) (I : Nat → Int32) (O : Nat → Option Nat) (R : Nat → Nat → Int32) (RO : Nat → Nat → Option Nat) (LL : va_W) (Y : va_W) (x0 : Int32) (x1 : Int32) (hx0 : vp_in x0 16) : Met l yX6_write wsX6_write ({ frames := 0, cells := 0, slots := 0, locals := 0 }) (va_Pc [.ref (a 14), .int x0, .int x1] (PW D cy sz (CT cy a J I O R RO (LL ++ Y)))) (va_Qv (fun (u : TS) => ∃ (w0 : Nat → Int32), ((w0 = upd (R 15) x0.toNatClampNeg (if I 449 = 32 then x1 else x1 &&& (((1 : Int32) <<< (I 449 &&& 31)) - 1)))) ∧ u = (J, I, O, (va_up R 15 w0), RO, LL, Y)) (BW D (va_A (CT cy a J I O R RO (LL ++ Y)) sz) (CTu cy a)) (va_A (CT cy a J I O R RO (LL ++ Y)) sz)) 0 0 (va_A (CT cy a J I O R RO (LL ++ Y)) sz) := by
  refine Met.ofW (cc := cX6_write) (maxL := 3) (ret := none) (by decide) rfl ?_
  intro p e s m args below meth c s₁ B hml hv
  obtain ⟨rfl, rfl, hP, hK, hN, hD0⟩ := hv
  have hx := B.exec
  have hb := B.bytes
  have hr := B.returns
  have hts := atoms_spec (ws := wsX6_write) B.pre
  have hown : s.vm.findClass RX6 = some m.cls := findClass_of_methodNamed B.named
  have hlocks := B.notSynchronized
  have hw0 := hts (.fieldLink RX6 9 "ParquetLayer$Sheet" "numbers" "[I") (by decide +kernel)
  have hw1 := hts (.fieldLink RX6 13 "ParquetLayer$Sheet" "bits" "I") (by decide +kernel)
  have hi6 := ihX6_write_6
  have hD := hD0.self (sz := s.heap.size)
  generalize hAe : va_A (CT cy a J I O R RO (LL ++ Y)) s.heap.size = A at hD ⊢
  have hA : ∀ q : Nat, s.heap.size ≤ q → A q := fun q h => by rw [← hAe]; exact Or.inr h
  have hS : va_S A s.heap s.heap [] := va_S.rf
  have hl := lv_entry ([.ref (a 14), .int x0, .int x1]) (n := 3) (Nat.le_of_ble_eq_true rfl)
  rw [lg_entry_eq]
  generalize (lg_sl ([.ref (a 14), .int x0, .int x1]) ++ List.replicate (3 - (lg_sl ([.ref (a 14), .int x0, .int x1])).length) Slot.unset).toArray = ls at hl ⊢
  have hl : lv_has ls 3 [(0, .ref (a 14)), (1, .int x0), (2, .int x1)] := hl
  have hP : va_P D vwCl (CT cy a J I O (va_up R 15 (R 15)) RO (LL ++ Y)) s.heap := hP
  have hD : va_D A (CT cy a J I O (va_up R 15 (R 15)) RO (LL ++ Y)) := hD
  refine lv_iload_n hx hb dX6_write_0 rfl (lv_at hl 1 rfl) ?_
  refine lv_if_lt (tgt := 39) hx hb dX6_write_1 (by decide) (fun c_1 => ?_) (fun c_1 => ?_)
  · exact wret_v hx hb hr hlocks (J, I, O, (va_up R 15 (R 15)), RO, LL, Y) ⟨(R 15), (absurd c_1 (wr_0 hx0)), rfl⟩ hP hD hS dX6_write_39
  · refine lv_iload_n hx hb dX6_write_4 rfl (lv_at hl 1 rfl) ?_
    refine lv_bipush (v := 16) hx hb dX6_write_5 (by decide) ?_
    refine lv_icmp_ge (tgt := 39) hx hb dX6_write_7 (by decide) (fun c_2 => ?_) (fun c_2 => ?_)
    · exact wret_v hx hb hr hlocks (J, I, O, (va_up R 15 (R 15)), RO, LL, Y) ⟨(R 15), (absurd c_2 (wr_16 hx0)), rfl⟩ hP hD hS dX6_write_39
    · refine lv_aload_n hx hb dX6_write_10 rfl (lv_at hl 0 rfl) ?_
      refine va_get (D := D) (ci := 5) (v := .ref (a 15)) (C := RX6) (T := TX6) (N := 3) hx hb hts hi6 hown hK hP 14 rfl rfl 0 (by decide) hw0 (fun _ h9 => h9) rfl dX6_write_11 ?_
      refine lv_iload_n hx hb dX6_write_14 rfl (lv_at hl 1 rfl) ?_
      refine lv_aload_n hx hb dX6_write_15 rfl (lv_at hl 0 rfl) ?_
      refine va_get (D := D) (ci := 5) (v := .int (I 449)) (C := RX6) (T := TX6) (N := 3) hx hb hts hi6 hown hK hP 14 rfl rfl 1 (by decide) hw1 (fun _ h9 => h9) rfl dX6_write_16 ?_
      refine lv_bipush (v := 32) hx hb dX6_write_19 (by decide) ?_
      refine lv_icmp_ne (tgt := 28) hx hb dX6_write_21 (by decide) (fun c_3 => ?_) (fun c_3 => ?_)
      · refine lv_iload_n hx hb dX6_write_28 rfl (lv_at hl 2 rfl) ?_
        refine lv_iconst (v := 1) hx hb dX6_write_29 (by decide) ?_
        refine lv_aload_n hx hb dX6_write_30 rfl (lv_at hl 0 rfl) ?_
        refine va_get (D := D) (ci := 5) (v := .int (I 449)) (C := RX6) (T := TX6) (N := 3) hx hb hts hi6 hown hK hP 14 rfl rfl 1 (by decide) hw1 (fun _ h9 => h9) rfl dX6_write_31 ?_
        refine lv_ishl hx hb dX6_write_34 ?_
        refine lv_iconst (v := 1) hx hb dX6_write_35 (by decide) ?_
        refine lv_isub hx hb dX6_write_36 ?_
        refine lv_iand hx hb dX6_write_37 ?_
        refine va_iast hx hb hK hP hD hS 15 0 rfl rfl hx0 dX6_write_38 (fun H locs hP hD hS => ?_)
        have hP : va_P D vwCl (CT cy a J I O (va_up R 15 (upd (R 15) x0.toNatClampNeg (x1 &&& ((1 <<< ((I 449) &&& 31)) - 1)))) RO (LL ++ Y)) H := hP
        have hD : va_D A (CT cy a J I O (va_up R 15 (upd (R 15) x0.toNatClampNeg (x1 &&& ((1 <<< ((I 449) &&& 31)) - 1)))) RO (LL ++ Y)) := hD
        exact wret_v hx hb hr hlocks (J, I, O, (va_up R 15 (upd (R 15) x0.toNatClampNeg (x1 &&& ((1 <<< ((I 449) &&& 31)) - 1)))), RO, LL, Y) ⟨(upd (R 15) x0.toNatClampNeg (x1 &&& ((1 <<< ((I 449) &&& 31)) - 1))), (by rw [if_neg c_3]), rfl⟩ hP hD hS dX6_write_39
      · refine lv_iload_n hx hb dX6_write_24 rfl (lv_at hl 2 rfl) ?_
        refine lv_goto (tgt := 38) hx hb dX6_write_25 (by decide) ?_
        refine va_iast hx hb hK hP hD hS 15 0 rfl rfl hx0 dX6_write_38 (fun H locs hP hD hS => ?_)
        have hP : va_P D vwCl (CT cy a J I O (va_up R 15 (upd (R 15) x0.toNatClampNeg x1)) RO (LL ++ Y)) H := hP
        have hD : va_D A (CT cy a J I O (va_up R 15 (upd (R 15) x0.toNatClampNeg x1)) RO (LL ++ Y)) := hD
        exact wret_v hx hb hr hlocks (J, I, O, (va_up R 15 (upd (R 15) x0.toNatClampNeg x1)), RO, LL, Y) ⟨(upd (R 15) x0.toNatClampNeg x1), (by rw [if_pos c_3]), rfl⟩ hP hD hS dX6_write_39
set_option maxHeartbeats 4000000 in
set_option maxRecDepth 100000 in
theorem x_X6_toldFields14 (l : Launch) (D : va_G) (cy : Nat → ClassId) (a : Nat → Nat) (sz : Nat) (J : Nat → Int64) (I : Nat → Int32) (O : Nat → Option Nat) (R : Nat → Nat → Int32) (RO : Nat → Nat → Option Nat) (LL : va_W) (Y : va_W)  (hz : vp_in (I 450) 17) : Met l yX6_toldFields wsX6_toldFields ({ frames := 0, cells := 0, slots := 0, locals := 0 }) (va_Pc [.ref (a 14)] (PW D cy sz (CT cy a J I O R RO (LL ++ Y)))) (vp_Sl (fun r => r = plT (fun y => (R 15) (nI y).toNatClampNeg &&& 255) (plN (I 450)))) 0 0 (fun _ => False) := by
  refine Met.ofW (cc := cX6_toldFields) (maxL := 4) (ret := (some .long)) (by decide) rfl ?_
  intro p e s m args below meth c s₁ B hml hv
  obtain ⟨rfl, rfl, hP, hK, hN, hD0⟩ := hv
  have hx := B.exec
  have hb := B.bytes
  have hr := B.returns
  have hts := atoms_spec (ws := wsX6_toldFields) B.pre
  have hown : s.vm.findClass RX6 = some m.cls := findClass_of_methodNamed B.named
  have hlocks := B.notSynchronized
  have hw0 := hts (.fieldLink RX6 17 "ParquetLayer$Sheet" "size" "I") (by decide +kernel)
  have hw1 := hts (.fieldLink RX6 9 "ParquetLayer$Sheet" "numbers" "[I") (by decide +kernel)
  have hi6 := ihX6_toldFields_6
  have hD := hD0
  have hl := lv_entry ([.ref (a 14)]) (n := 4) (Nat.le_of_ble_eq_true rfl)
  rw [lg_entry_eq]
  generalize (lg_sl ([.ref (a 14)]) ++ List.replicate (4 - (lg_sl ([.ref (a 14)])).length) Slot.unset).toArray = ls at hl ⊢
  have hl : lv_has ls 4 [(0, .ref (a 14))] := hl
  have lp4 : ∀ (n4 : Nat), ∀ (i : Nat), (i ≤ 8) → (i ≤ (I 450).toNatClampNeg) → (8 - i) < n4 → ∀ (ls : Array Slot), lv_has ls 4 [(0, .ref (a 14)), (1, .long (plT (fun y => R 15 (nI y).toNatClampNeg &&& 255) i)), (3, .int (nI i))] → W p l e (headSpec wsX6_toldFields ({ frames := 0, cells := 0, slots := 0, locals := 0 })).room s m ([.ref (a 14)] : List Value).toArray below meth c s.heap [] 0 0 (MQ below (vp_Sl (fun r => r = plT (fun y => (R 15) (nI y).toNatClampNeg &&& 255) (plN (I 450)))) ([.ref (a 14)] : List Value).toArray s 0 0 (fun _ => False)) (F0 m 4 ls []) := by
    intro n4
    induction n4 with
    | zero => intro i hi hks hn; exact absurd hn (Nat.not_lt_zero _)
    | succ n4 ih4 =>
      intro i hi hks hn4 ls hl
      refine lv_iload_n hx hb dX6_toldFields_4 rfl (lv_at hl 2 rfl) ?_
      refine lv_bipush (v := 8) hx hb dX6_toldFields_5 (by decide) ?_
      refine lv_icmp_ge (tgt := 43) hx hb dX6_toldFields_7 (by decide) (fun c_1 => ?_) (fun c_1 => ?_)
      · have hie := ctr_ge (N := 8) (by decide) hi c_1
        refine lv_lload_n hx hb dX6_toldFields_43 rfl (lv_at hl 1 rfl) ?_
        exact pret_l hx hb hr hlocks (congrArg (plT _) (plN_1 hks hie)) dX6_toldFields_44
      · have hlt_i := ctr_lt (N := 8) (by decide) hi c_1
        refine lv_iload_n hx hb dX6_toldFields_10 rfl (lv_at hl 2 rfl) ?_
        refine lv_aload_n hx hb dX6_toldFields_11 rfl (lv_at hl 0 rfl) ?_
        refine va_get (D := D) (ci := 5) (v := .int (I 450)) (C := RX6) (T := TX6) (N := 3) hx hb hts hi6 hown hK hP 14 rfl rfl 2 (by decide) hw0 (fun _ h9 => h9) rfl dX6_toldFields_12 ?_
        refine lv_icmp_ge (tgt := 43) hx hb dX6_toldFields_15 (by decide) (fun c_2 => ?_) (fun c_2 => ?_)
        · refine lv_lload_n hx hb dX6_toldFields_43 rfl (lv_at hl 1 rfl) ?_
          exact pret_l hx hb hr hlocks (congrArg (plT _) (plN_2 hz hks hlt_i c_2)) dX6_toldFields_44
        · refine lv_lload_n hx hb dX6_toldFields_18 rfl (lv_at hl 1 rfl) ?_
          refine lv_aload_n hx hb dX6_toldFields_19 rfl (lv_at hl 0 rfl) ?_
          refine va_get (D := D) (ci := 5) (v := .ref (a 15)) (C := RX6) (T := TX6) (N := 3) hx hb hts hi6 hown hK hP 14 rfl rfl 0 (by decide) hw1 (fun _ h9 => h9) rfl dX6_toldFields_20 ?_
          refine lv_iload_n hx hb dX6_toldFields_23 rfl (lv_at hl 2 rfl) ?_
          refine va_iald hx hb hK hP 15 0 rfl rfl (vp_in_nI (by omega) (by decide)) dX6_toldFields_24 ?_
          refine lv_sipush (v := 255) hx hb dX6_toldFields_25 (by decide) ?_
          refine lv_iand hx hb dX6_toldFields_28 ?_
          refine lv_i2l (v := (((R 15) (nI i).toNatClampNeg) &&& 255 : Int32).toInt64) hx hb dX6_toldFields_29 rfl ?_
          refine lv_bipush (v := 8) hx hb dX6_toldFields_30 (by decide) ?_
          refine lv_iload_n hx hb dX6_toldFields_32 rfl (lv_at hl 2 rfl) ?_
          refine lv_imul hx hb dX6_toldFields_33 ?_
          refine lv_lshl (v := ((((R 15) (nI i).toNatClampNeg) &&& 255 : Int32).toInt64) <<< ((8 * (nI i) : Int32).toInt64 &&& 63)) hx hb dX6_toldFields_34 rfl ?_
          refine lv_lor hx hb dX6_toldFields_35 ?_
          refine lv_lstore_n (lv' := [(1, .long ((plT (fun y => R 15 (nI y).toNatClampNeg &&& 255) i) ||| (((((R 15) (nI i).toNatClampNeg) &&& 255 : Int32).toInt64) <<< ((8 * (nI i) : Int32).toInt64 &&& 63)))), (0, .ref (a 14)), (3, .int (nI i))]) hx hb dX6_toldFields_36 rfl hl (by decide) rfl (fun ls hl => ?_)
          refine lv_iinc (v := nI (i + 1)) (lv' := [(3, .int (nI (i + 1))), (1, .long ((plT (fun y => R 15 (nI y).toNatClampNeg &&& 255) i) ||| (((((R 15) (nI i).toNatClampNeg) &&& 255 : Int32).toInt64) <<< ((8 * (nI i) : Int32).toInt64 &&& 63)))), (0, .ref (a 14))]) hx hb dX6_toldFields_37 hl (k := 2) rfl (nI_1 _) (by decide) rfl (fun ls hl => ?_)
          refine lv_goto (tgt := 4) hx hb dX6_toldFields_40 (by decide) ?_
          exact ih4 (i + 1) hlt_i (cl_lt hks c_2) (lt_dec hlt_i hn4) ls (lv_sub hl [2, 1, 0] rfl)
  refine lv_lconst (v := 0) hx hb dX6_toldFields_0 (by decide) ?_
  refine lv_lstore_n (lv' := [(1, .long 0), (0, .ref (a 14))]) hx hb dX6_toldFields_1 rfl hl (by decide) rfl (fun ls hl => ?_)
  refine lv_iconst (v := 0) hx hb dX6_toldFields_2 (by decide) ?_
  refine lv_istore_n (lv' := [(3, .int 0), (1, .long 0), (0, .ref (a 14))]) hx hb dX6_toldFields_3 rfl hl (by decide) rfl (fun ls hl => ?_)
  exact lp4 _ 0 (by omega) (Nat.zero_le _) (Nat.lt_succ_self _) ls (lv_sub hl [2, 1, 0] rfl)
set_option maxHeartbeats 4000000 in
set_option maxRecDepth 100000 in
theorem x_X6_isMissing16 (l : Launch) (D : va_G) (cy : Nat → ClassId) (a : Nat → Nat) (sz : Nat) (J : Nat → Int64) (I : Nat → Int32) (O : Nat → Option Nat) (R : Nat → Nat → Int32) (RO : Nat → Nat → Option Nat) (LL : va_W) (Y : va_W)  : Met l yX6_isMissing wsX6_isMissing ({ frames := 0, cells := 0, slots := 0, locals := 0 }) (va_Pc [.ref (a 16)] (PW D cy sz (CT cy a J I O R RO (LL ++ Y)))) (vp_Si (fun r => r = bI (decide ((I 513) = 0)))) 0 0 (fun _ => False) := by
  refine Met.ofW (cc := cX6_isMissing) (maxL := 1) (ret := (some .boolean)) (by decide) rfl ?_
  intro p e s m args below meth c s₁ B hml hv
  obtain ⟨rfl, rfl, hP, hK, hN, hD0⟩ := hv
  have hx := B.exec
  have hb := B.bytes
  have hr := B.returns
  have hts := atoms_spec (ws := wsX6_isMissing) B.pre
  have hown : s.vm.findClass RX6 = some m.cls := findClass_of_methodNamed B.named
  have hlocks := B.notSynchronized
  have hw0 := hts (.fieldLink RX6 13 "ParquetLayer$Sheet" "bits" "I") (by decide +kernel)
  have hi6 := ihX6_isMissing_6
  have hD := hD0
  have hl := lv_entry ([.ref (a 16)]) (n := 1) (Nat.le_of_ble_eq_true rfl)
  rw [lg_entry_eq]
  generalize (lg_sl ([.ref (a 16)]) ++ List.replicate (1 - (lg_sl ([.ref (a 16)])).length) Slot.unset).toArray = ls at hl ⊢
  have hl : lv_has ls 1 [(0, .ref (a 16))] := hl
  refine lv_aload_n hx hb dX6_isMissing_0 rfl (lv_at hl 0 rfl) ?_
  refine va_get (D := D) (ci := 5) (v := .int (I 513)) (C := RX6) (T := TX6) (N := 3) hx hb hts hi6 hown hK hP 16 rfl rfl 1 (by decide) hw0 (fun _ h9 => h9) rfl dX6_isMissing_1 ?_
  refine lv_if_ne (tgt := 11) hx hb dX6_isMissing_4 (by decide) (fun c_1 => ?_) (fun c_1 => ?_)
  · refine lv_iconst (v := 0) hx hb dX6_isMissing_11 (by decide) ?_
    exact pret_z hx hb hr hlocks (bd_f c_1) dX6_isMissing_12
  · refine lv_iconst (v := 1) hx hb dX6_isMissing_7 (by decide) ?_
    refine lv_goto (tgt := 12) hx hb dX6_isMissing_8 (by decide) ?_
    exact pret_z hx hb hr hlocks (bd_t c_1) dX6_isMissing_12
set_option maxHeartbeats 4000000 in
set_option maxRecDepth 100000 in
theorem x_X6_hasRange16 (l : Launch) (D : va_G) (cy : Nat → ClassId) (a : Nat → Nat) (sz : Nat) (J : Nat → Int64) (I : Nat → Int32) (O : Nat → Option Nat) (R : Nat → Nat → Int32) (RO : Nat → Nat → Option Nat) (LL : va_W) (Y : va_W) (x0 : Int32) (x1 : Int32) : Met l yX6_hasRange wsX6_hasRange ({ frames := 0, cells := 0, slots := 0, locals := 0 }) (va_Pc [.ref (a 16), .int x0, .int x1] (PW D cy sz (CT cy a J I O R RO (LL ++ Y)))) (vp_Si (fun r => r = bI (g_rng x0 x1 (I 514)))) 0 0 (fun _ => False) := by
  refine Met.ofW (cc := cX6_hasRange) (maxL := 3) (ret := (some .boolean)) (by decide) rfl ?_
  intro p e s m args below meth c s₁ B hml hv
  obtain ⟨rfl, rfl, hP, hK, hN, hD0⟩ := hv
  have hx := B.exec
  have hb := B.bytes
  have hr := B.returns
  have hts := atoms_spec (ws := wsX6_hasRange) B.pre
  have hown : s.vm.findClass RX6 = some m.cls := findClass_of_methodNamed B.named
  have hlocks := B.notSynchronized
  have hw0 := hts (.fieldLink RX6 17 "ParquetLayer$Sheet" "size" "I") (by decide +kernel)
  have hi6 := ihX6_hasRange_6
  have hD := hD0
  have hl := lv_entry ([.ref (a 16), .int x0, .int x1]) (n := 3) (Nat.le_of_ble_eq_true rfl)
  rw [lg_entry_eq]
  generalize (lg_sl ([.ref (a 16), .int x0, .int x1]) ++ List.replicate (3 - (lg_sl ([.ref (a 16), .int x0, .int x1])).length) Slot.unset).toArray = ls at hl ⊢
  have hl : lv_has ls 3 [(0, .ref (a 16)), (1, .int x0), (2, .int x1)] := hl
  refine lv_iload_n hx hb dX6_hasRange_0 rfl (lv_at hl 1 rfl) ?_
  refine lv_if_lt (tgt := 30) hx hb dX6_hasRange_1 (by decide) (fun c_1 => ?_) (fun c_1 => ?_)
  · refine lv_iconst (v := 0) hx hb dX6_hasRange_30 (by decide) ?_
    exact pret_z hx hb hr hlocks (rn_f (Or.inl c_1)) dX6_hasRange_31
  · refine lv_iload_n hx hb dX6_hasRange_4 rfl (lv_at hl 2 rfl) ?_
    refine lv_if_lt (tgt := 30) hx hb dX6_hasRange_5 (by decide) (fun c_2 => ?_) (fun c_2 => ?_)
    · refine lv_iconst (v := 0) hx hb dX6_hasRange_30 (by decide) ?_
      exact pret_z hx hb hr hlocks (rn_f (Or.inr (Or.inl c_2))) dX6_hasRange_31
    · refine lv_iload_n hx hb dX6_hasRange_8 rfl (lv_at hl 2 rfl) ?_
      refine lv_aload_n hx hb dX6_hasRange_9 rfl (lv_at hl 0 rfl) ?_
      refine va_get (D := D) (ci := 5) (v := .int (I 514)) (C := RX6) (T := TX6) (N := 3) hx hb hts hi6 hown hK hP 16 rfl rfl 2 (by decide) hw0 (fun _ h9 => h9) rfl dX6_hasRange_10 ?_
      refine lv_icmp_gt (tgt := 30) hx hb dX6_hasRange_13 (by decide) (fun c_3 => ?_) (fun c_3 => ?_)
      · refine lv_iconst (v := 0) hx hb dX6_hasRange_30 (by decide) ?_
        exact pret_z hx hb hr hlocks (rn_f (Or.inr (Or.inr (Or.inl c_3)))) dX6_hasRange_31
      · refine lv_iload_n hx hb dX6_hasRange_16 rfl (lv_at hl 1 rfl) ?_
        refine lv_aload_n hx hb dX6_hasRange_17 rfl (lv_at hl 0 rfl) ?_
        refine va_get (D := D) (ci := 5) (v := .int (I 514)) (C := RX6) (T := TX6) (N := 3) hx hb hts hi6 hown hK hP 16 rfl rfl 2 (by decide) hw0 (fun _ h9 => h9) rfl dX6_hasRange_18 ?_
        refine lv_iload_n hx hb dX6_hasRange_21 rfl (lv_at hl 2 rfl) ?_
        refine lv_isub hx hb dX6_hasRange_22 ?_
        refine lv_icmp_gt (tgt := 30) hx hb dX6_hasRange_23 (by decide) (fun c_4 => ?_) (fun c_4 => ?_)
        · refine lv_iconst (v := 0) hx hb dX6_hasRange_30 (by decide) ?_
          exact pret_z hx hb hr hlocks (rn_f (Or.inr (Or.inr (Or.inr c_4)))) dX6_hasRange_31
        · refine lv_iconst (v := 1) hx hb dX6_hasRange_26 (by decide) ?_
          refine lv_goto (tgt := 31) hx hb dX6_hasRange_27 (by decide) ?_
          exact pret_z hx hb hr hlocks (rn_t c_1 c_2 c_3 c_4) dX6_hasRange_31
set_option maxHeartbeats 4000000 in
set_option maxRecDepth 100000 in
theorem x_X6_begin16 (l : Launch) (D : va_G) (cy : Nat → ClassId) (a : Nat → Nat) (sz : Nat) (J : Nat → Int64) (I : Nat → Int32) (O : Nat → Option Nat) (R : Nat → Nat → Int32) (RO : Nat → Nat → Option Nat) (LL : va_W) (Y : va_W) (x0 : Int32) (x1 : Int32) (hx1 : vp_in x1 17) (hM : CI a Y I O RO) : Met l yX6_begin wsX6_begin ({ frames := 1, cells := 0, slots := 0, locals := 23 }) (va_Pc [.ref (a 16), .int x0, .int x1] (PW D cy sz (CT cy a J I O R RO (LL ++ Y)))) (va_Qv (fun (u : TS) => ∃ (w0 : Int32), ∃ (w1 : Int32), ∃ (w2 : Nat → Int32), ((vp_in w1 17) ∧ (w1 = (if x0 = 0 then 0 else x1)) ∧ (w0 = x0) ∧ (∀ p, p < 16 → w2 p = 0)) ∧ u = (J, (va_up (va_up I 513 w0) 514 w1), O, (va_up R 17 w2), RO, LL, Y)) (BW D (va_A (CT cy a J I O R RO (LL ++ Y)) sz) (CTu cy a)) (va_A (CT cy a J I O R RO (LL ++ Y)) sz)) 0 0 (va_A (CT cy a J I O R RO (LL ++ Y)) sz) := by
  refine Met.ofW (cc := cX6_begin) (maxL := 3) (ret := none) (by decide) rfl ?_
  intro p e s m args below meth c s₁ B hml hv
  obtain ⟨rfl, rfl, hP, hK, hN, hD0⟩ := hv
  have hx := B.exec
  have hb := B.bytes
  have hr := B.returns
  have hts := atoms_spec (ws := wsX6_begin) B.pre
  have hown : s.vm.findClass RX6 = some m.cls := findClass_of_methodNamed B.named
  have hlocks := B.notSynchronized
  have hw0 := hts (.fieldLink RX6 13 "ParquetLayer$Sheet" "bits" "I") (by decide +kernel)
  have hw1 := hts (.fieldLink RX6 17 "ParquetLayer$Sheet" "size" "I") (by decide +kernel)
  have hw2 := hts (.fieldLink RX6 9 "ParquetLayer$Sheet" "numbers" "[I") (by decide +kernel)
  have hi6 := ihX6_begin_6
  have hD := hD0.self (sz := s.heap.size)
  generalize hAe : va_A (CT cy a J I O R RO (LL ++ Y)) s.heap.size = A at hD ⊢
  have hA : ∀ q : Nat, s.heap.size ≤ q → A q := fun q h => by rw [← hAe]; exact Or.inr h
  have hS : va_S A s.heap s.heap [] := va_S.rf
  have hl := lv_entry ([.ref (a 16), .int x0, .int x1]) (n := 3) (Nat.le_of_ble_eq_true rfl)
  rw [lg_entry_eq]
  generalize (lg_sl ([.ref (a 16), .int x0, .int x1]) ++ List.replicate (3 - (lg_sl ([.ref (a 16), .int x0, .int x1])).length) Slot.unset).toArray = ls at hl ⊢
  have hl : lv_has ls 3 [(0, .ref (a 16)), (1, .int x0), (2, .int x1)] := hl
  have hRO0 := hM.2.2.2.2.2.2.2.2.1
  have hRO1 := hM.2.2.2.2.2.2.2.2.2.1
  have hRO2 := hM.2.2.2.2.2.2.2.2.2.2.1
  have hRO3 := hM.2.2.2.2.2.2.2.2.2.2.2
  have hP : va_P D vwCl (CT cy a J (va_up (va_up I 513 (I 513)) 514 (I 514)) O (va_up R 17 (R 17)) RO (LL ++ Y)) s.heap := hP
  have hD : va_D A (CT cy a J (va_up (va_up I 513 (I 513)) 514 (I 514)) O (va_up R 17 (R 17)) RO (LL ++ Y)) := hD
  refine lv_aload_n hx hb dX6_begin_0 rfl (lv_at hl 0 rfl) ?_
  refine lv_iload_n hx hb dX6_begin_1 rfl (lv_at hl 1 rfl) ?_
  refine va_put (D := D) (ci := 5) (v := .int x0) (ty := .int) (C := RX6) (T := TX6) (N := 3) hx hb hts hi6 tyX6 tyX6_ok nmX6 hown hK hP hD hS 16 rfl rfl 1 (by decide) hw0 (fun _ h9 => h9) rfl (by decide +kernel) rfl rfl (Nat.le_of_ble_eq_true rfl) dX6_begin_2 (fun H locs hP hD hS => ?_)
  have hP : va_P D vwCl (CT cy a J (va_up (va_up I 513 x0) 514 (I 514)) O (va_up R 17 (R 17)) RO (LL ++ Y)) H := hP
  have hD : va_D A (CT cy a J (va_up (va_up I 513 x0) 514 (I 514)) O (va_up R 17 (R 17)) RO (LL ++ Y)) := hD
  refine lv_aload_n hx hb dX6_begin_5 rfl (lv_at hl 0 rfl) ?_
  refine lv_iload_n hx hb dX6_begin_6 rfl (lv_at hl 1 rfl) ?_
  refine lv_if_ne (tgt := 14) hx hb dX6_begin_7 (by decide) (fun c_1 => ?_) (fun c_1 => ?_)
  · refine lv_iload_n hx hb dX6_begin_14 rfl (lv_at hl 2 rfl) ?_
    refine va_put (D := D) (ci := 5) (v := .int x1) (ty := .int) (C := RX6) (T := TX6) (N := 3) hx hb hts hi6 tyX6 tyX6_ok nmX6 hown hK hP hD hS 16 rfl rfl 2 (by decide) hw1 (fun _ h9 => h9) rfl (by decide +kernel) rfl rfl (Nat.le_of_ble_eq_true rfl) dX6_begin_15 (fun H locs hP hD hS => ?_)
    have hP : va_P D vwCl (CT cy a J (va_up (va_up I 513 x0) 514 x1) O (va_up R 17 (R 17)) RO (LL ++ Y)) H := hP
    have hD : va_D A (CT cy a J (va_up (va_up I 513 x0) 514 x1) O (va_up R 17 (R 17)) RO (LL ++ Y)) := hD
    have hi_2 : vp_in x1 17 := hx1
    refine lv_aload_n hx hb dX6_begin_18 rfl (lv_at hl 0 rfl) ?_
    refine va_get (D := D) (ci := 5) (v := .ref (a 17)) (C := RX6) (T := TX6) (N := 3) hx hb hts hi6 hown hK hP 16 rfl rfl 0 (by decide) hw2 (fun _ h9 => h9) rfl dX6_begin_19 ?_
    refine lv_iconst (v := 0) hx hb dX6_begin_22 (by decide) ?_
    refine kW_v (As := [.ref (a 17), .int 0]) (rest := []) ⟨hx, hb, hml, hown, hts⟩ (x_fill17 l D cy a _ J (va_up (va_up I 513 x0) 514 x1) O (va_up R 17 (R 17)) RO LL Y (0 : Int32)   ) (va_cwS 2 hts gX6_begin_J7_fill_53178 rfl rfl rfl (by decide +kernel) ⟨Nat.le_of_ble_eq_true rfl, Nat.le_of_ble_eq_true rfl⟩) hK hN hP hD hS hA rfl hl.1 rfl (Nat.le_of_ble_eq_true rfl) dX6_begin_23 ⟨Nat.le_of_ble_eq_true rfl, Nat.le_of_ble_eq_true rfl⟩ (fun u H locs hw hP hD hS => ?_)
    obtain ⟨w_4, hp_5, rfl⟩ := hw
    have hP : va_P D vwCl (CT cy a J (va_up (va_up I 513 x0) 514 x1) O (va_up R 17 w_4) RO (LL ++ Y)) H := hP
    have hD : va_D A (CT cy a J (va_up (va_up I 513 x0) 514 x1) O (va_up R 17 w_4) RO (LL ++ Y)) := hD
    exact wret_v hx hb hr hlocks (J, (va_up (va_up I 513 x0) 514 x1), O, (va_up R 17 w_4), RO, LL, Y) ⟨x0, x1, w_4, ⟨hi_2, (if_neg c_1).symm, rfl, hp_5⟩, rfl⟩ hP hD hS dX6_begin_26
  · refine lv_iconst (v := 0) hx hb dX6_begin_10 (by decide) ?_
    refine lv_goto (tgt := 15) hx hb dX6_begin_11 (by decide) ?_
    refine va_put (D := D) (ci := 5) (v := .int 0) (ty := .int) (C := RX6) (T := TX6) (N := 3) hx hb hts hi6 tyX6 tyX6_ok nmX6 hown hK hP hD hS 16 rfl rfl 2 (by decide) hw1 (fun _ h9 => h9) rfl (by decide +kernel) rfl rfl (Nat.le_of_ble_eq_true rfl) dX6_begin_15 (fun H locs hP hD hS => ?_)
    have hP : va_P D vwCl (CT cy a J (va_up (va_up I 513 x0) 514 0) O (va_up R 17 (R 17)) RO (LL ++ Y)) H := hP
    have hD : va_D A (CT cy a J (va_up (va_up I 513 x0) 514 0) O (va_up R 17 (R 17)) RO (LL ++ Y)) := hD
    have hi_6 : vp_in 0 17 := (by unfold vp_in; decide)
    refine lv_aload_n hx hb dX6_begin_18 rfl (lv_at hl 0 rfl) ?_
    refine va_get (D := D) (ci := 5) (v := .ref (a 17)) (C := RX6) (T := TX6) (N := 3) hx hb hts hi6 hown hK hP 16 rfl rfl 0 (by decide) hw2 (fun _ h9 => h9) rfl dX6_begin_19 ?_
    refine lv_iconst (v := 0) hx hb dX6_begin_22 (by decide) ?_
    refine kW_v (As := [.ref (a 17), .int 0]) (rest := []) ⟨hx, hb, hml, hown, hts⟩ (x_fill17 l D cy a _ J (va_up (va_up I 513 x0) 514 0) O (va_up R 17 (R 17)) RO LL Y (0 : Int32)   ) (va_cwS 2 hts gX6_begin_J7_fill_53178 rfl rfl rfl (by decide +kernel) ⟨Nat.le_of_ble_eq_true rfl, Nat.le_of_ble_eq_true rfl⟩) hK hN hP hD hS hA rfl hl.1 rfl (Nat.le_of_ble_eq_true rfl) dX6_begin_23 ⟨Nat.le_of_ble_eq_true rfl, Nat.le_of_ble_eq_true rfl⟩ (fun u H locs hw hP hD hS => ?_)
    obtain ⟨w_8, hp_9, rfl⟩ := hw
    have hP : va_P D vwCl (CT cy a J (va_up (va_up I 513 x0) 514 0) O (va_up R 17 w_8) RO (LL ++ Y)) H := hP
    have hD : va_D A (CT cy a J (va_up (va_up I 513 x0) 514 0) O (va_up R 17 w_8) RO (LL ++ Y)) := hD
    exact wret_v hx hb hr hlocks (J, (va_up (va_up I 513 x0) 514 0), O, (va_up R 17 w_8), RO, LL, Y) ⟨x0, 0, w_8, ⟨hi_6, (if_pos c_1).symm, rfl, hp_9⟩, rfl⟩ hP hD hS dX6_begin_26
set_option maxHeartbeats 4000000 in
set_option maxRecDepth 100000 in
theorem x_X6_write16 (l : Launch) (D : va_G) (cy : Nat → ClassId) (a : Nat → Nat) (sz : Nat) (J : Nat → Int64) (I : Nat → Int32) (O : Nat → Option Nat) (R : Nat → Nat → Int32) (RO : Nat → Nat → Option Nat) (LL : va_W) (Y : va_W) (x0 : Int32) (x1 : Int32) (hx0 : vp_in x0 16) : Met l yX6_write wsX6_write ({ frames := 0, cells := 0, slots := 0, locals := 0 }) (va_Pc [.ref (a 16), .int x0, .int x1] (PW D cy sz (CT cy a J I O R RO (LL ++ Y)))) (va_Qv (fun (u : TS) => ∃ (w0 : Nat → Int32), ((w0 = upd (R 17) x0.toNatClampNeg (if I 513 = 32 then x1 else x1 &&& (((1 : Int32) <<< (I 513 &&& 31)) - 1)))) ∧ u = (J, I, O, (va_up R 17 w0), RO, LL, Y)) (BW D (va_A (CT cy a J I O R RO (LL ++ Y)) sz) (CTu cy a)) (va_A (CT cy a J I O R RO (LL ++ Y)) sz)) 0 0 (va_A (CT cy a J I O R RO (LL ++ Y)) sz) := by
  refine Met.ofW (cc := cX6_write) (maxL := 3) (ret := none) (by decide) rfl ?_
  intro p e s m args below meth c s₁ B hml hv
  obtain ⟨rfl, rfl, hP, hK, hN, hD0⟩ := hv
  have hx := B.exec
  have hb := B.bytes
  have hr := B.returns
  have hts := atoms_spec (ws := wsX6_write) B.pre
  have hown : s.vm.findClass RX6 = some m.cls := findClass_of_methodNamed B.named
  have hlocks := B.notSynchronized
  have hw0 := hts (.fieldLink RX6 9 "ParquetLayer$Sheet" "numbers" "[I") (by decide +kernel)
  have hw1 := hts (.fieldLink RX6 13 "ParquetLayer$Sheet" "bits" "I") (by decide +kernel)
  have hi6 := ihX6_write_6
  have hD := hD0.self (sz := s.heap.size)
  generalize hAe : va_A (CT cy a J I O R RO (LL ++ Y)) s.heap.size = A at hD ⊢
  have hA : ∀ q : Nat, s.heap.size ≤ q → A q := fun q h => by rw [← hAe]; exact Or.inr h
  have hS : va_S A s.heap s.heap [] := va_S.rf
  have hl := lv_entry ([.ref (a 16), .int x0, .int x1]) (n := 3) (Nat.le_of_ble_eq_true rfl)
  rw [lg_entry_eq]
  generalize (lg_sl ([.ref (a 16), .int x0, .int x1]) ++ List.replicate (3 - (lg_sl ([.ref (a 16), .int x0, .int x1])).length) Slot.unset).toArray = ls at hl ⊢
  have hl : lv_has ls 3 [(0, .ref (a 16)), (1, .int x0), (2, .int x1)] := hl
  have hP : va_P D vwCl (CT cy a J I O (va_up R 17 (R 17)) RO (LL ++ Y)) s.heap := hP
  have hD : va_D A (CT cy a J I O (va_up R 17 (R 17)) RO (LL ++ Y)) := hD
  refine lv_iload_n hx hb dX6_write_0 rfl (lv_at hl 1 rfl) ?_
  refine lv_if_lt (tgt := 39) hx hb dX6_write_1 (by decide) (fun c_1 => ?_) (fun c_1 => ?_)
  · exact wret_v hx hb hr hlocks (J, I, O, (va_up R 17 (R 17)), RO, LL, Y) ⟨(R 17), (absurd c_1 (wr_0 hx0)), rfl⟩ hP hD hS dX6_write_39
  · refine lv_iload_n hx hb dX6_write_4 rfl (lv_at hl 1 rfl) ?_
    refine lv_bipush (v := 16) hx hb dX6_write_5 (by decide) ?_
    refine lv_icmp_ge (tgt := 39) hx hb dX6_write_7 (by decide) (fun c_2 => ?_) (fun c_2 => ?_)
    · exact wret_v hx hb hr hlocks (J, I, O, (va_up R 17 (R 17)), RO, LL, Y) ⟨(R 17), (absurd c_2 (wr_16 hx0)), rfl⟩ hP hD hS dX6_write_39
    · refine lv_aload_n hx hb dX6_write_10 rfl (lv_at hl 0 rfl) ?_
      refine va_get (D := D) (ci := 5) (v := .ref (a 17)) (C := RX6) (T := TX6) (N := 3) hx hb hts hi6 hown hK hP 16 rfl rfl 0 (by decide) hw0 (fun _ h9 => h9) rfl dX6_write_11 ?_
      refine lv_iload_n hx hb dX6_write_14 rfl (lv_at hl 1 rfl) ?_
      refine lv_aload_n hx hb dX6_write_15 rfl (lv_at hl 0 rfl) ?_
      refine va_get (D := D) (ci := 5) (v := .int (I 513)) (C := RX6) (T := TX6) (N := 3) hx hb hts hi6 hown hK hP 16 rfl rfl 1 (by decide) hw1 (fun _ h9 => h9) rfl dX6_write_16 ?_
      refine lv_bipush (v := 32) hx hb dX6_write_19 (by decide) ?_
      refine lv_icmp_ne (tgt := 28) hx hb dX6_write_21 (by decide) (fun c_3 => ?_) (fun c_3 => ?_)
      · refine lv_iload_n hx hb dX6_write_28 rfl (lv_at hl 2 rfl) ?_
        refine lv_iconst (v := 1) hx hb dX6_write_29 (by decide) ?_
        refine lv_aload_n hx hb dX6_write_30 rfl (lv_at hl 0 rfl) ?_
        refine va_get (D := D) (ci := 5) (v := .int (I 513)) (C := RX6) (T := TX6) (N := 3) hx hb hts hi6 hown hK hP 16 rfl rfl 1 (by decide) hw1 (fun _ h9 => h9) rfl dX6_write_31 ?_
        refine lv_ishl hx hb dX6_write_34 ?_
        refine lv_iconst (v := 1) hx hb dX6_write_35 (by decide) ?_
        refine lv_isub hx hb dX6_write_36 ?_
        refine lv_iand hx hb dX6_write_37 ?_
        refine va_iast hx hb hK hP hD hS 17 0 rfl rfl hx0 dX6_write_38 (fun H locs hP hD hS => ?_)
        have hP : va_P D vwCl (CT cy a J I O (va_up R 17 (upd (R 17) x0.toNatClampNeg (x1 &&& ((1 <<< ((I 513) &&& 31)) - 1)))) RO (LL ++ Y)) H := hP
        have hD : va_D A (CT cy a J I O (va_up R 17 (upd (R 17) x0.toNatClampNeg (x1 &&& ((1 <<< ((I 513) &&& 31)) - 1)))) RO (LL ++ Y)) := hD
        exact wret_v hx hb hr hlocks (J, I, O, (va_up R 17 (upd (R 17) x0.toNatClampNeg (x1 &&& ((1 <<< ((I 513) &&& 31)) - 1)))), RO, LL, Y) ⟨(upd (R 17) x0.toNatClampNeg (x1 &&& ((1 <<< ((I 513) &&& 31)) - 1))), (by rw [if_neg c_3]), rfl⟩ hP hD hS dX6_write_39
      · refine lv_iload_n hx hb dX6_write_24 rfl (lv_at hl 2 rfl) ?_
        refine lv_goto (tgt := 38) hx hb dX6_write_25 (by decide) ?_
        refine va_iast hx hb hK hP hD hS 17 0 rfl rfl hx0 dX6_write_38 (fun H locs hP hD hS => ?_)
        have hP : va_P D vwCl (CT cy a J I O (va_up R 17 (upd (R 17) x0.toNatClampNeg x1)) RO (LL ++ Y)) H := hP
        have hD : va_D A (CT cy a J I O (va_up R 17 (upd (R 17) x0.toNatClampNeg x1)) RO (LL ++ Y)) := hD
        exact wret_v hx hb hr hlocks (J, I, O, (va_up R 17 (upd (R 17) x0.toNatClampNeg x1)), RO, LL, Y) ⟨(upd (R 17) x0.toNatClampNeg x1), (by rw [if_pos c_3]), rfl⟩ hP hD hS dX6_write_39
set_option maxHeartbeats 4000000 in
set_option maxRecDepth 100000 in
theorem x_X6_toldFields16 (l : Launch) (D : va_G) (cy : Nat → ClassId) (a : Nat → Nat) (sz : Nat) (J : Nat → Int64) (I : Nat → Int32) (O : Nat → Option Nat) (R : Nat → Nat → Int32) (RO : Nat → Nat → Option Nat) (LL : va_W) (Y : va_W)  (hz : vp_in (I 514) 17) : Met l yX6_toldFields wsX6_toldFields ({ frames := 0, cells := 0, slots := 0, locals := 0 }) (va_Pc [.ref (a 16)] (PW D cy sz (CT cy a J I O R RO (LL ++ Y)))) (vp_Sl (fun r => r = plT (fun y => (R 17) (nI y).toNatClampNeg &&& 255) (plN (I 514)))) 0 0 (fun _ => False) := by
  refine Met.ofW (cc := cX6_toldFields) (maxL := 4) (ret := (some .long)) (by decide) rfl ?_
  intro p e s m args below meth c s₁ B hml hv
  obtain ⟨rfl, rfl, hP, hK, hN, hD0⟩ := hv
  have hx := B.exec
  have hb := B.bytes
  have hr := B.returns
  have hts := atoms_spec (ws := wsX6_toldFields) B.pre
  have hown : s.vm.findClass RX6 = some m.cls := findClass_of_methodNamed B.named
  have hlocks := B.notSynchronized
  have hw0 := hts (.fieldLink RX6 17 "ParquetLayer$Sheet" "size" "I") (by decide +kernel)
  have hw1 := hts (.fieldLink RX6 9 "ParquetLayer$Sheet" "numbers" "[I") (by decide +kernel)
  have hi6 := ihX6_toldFields_6
  have hD := hD0
  have hl := lv_entry ([.ref (a 16)]) (n := 4) (Nat.le_of_ble_eq_true rfl)
  rw [lg_entry_eq]
  generalize (lg_sl ([.ref (a 16)]) ++ List.replicate (4 - (lg_sl ([.ref (a 16)])).length) Slot.unset).toArray = ls at hl ⊢
  have hl : lv_has ls 4 [(0, .ref (a 16))] := hl
  have lp4 : ∀ (n4 : Nat), ∀ (i : Nat), (i ≤ 8) → (i ≤ (I 514).toNatClampNeg) → (8 - i) < n4 → ∀ (ls : Array Slot), lv_has ls 4 [(0, .ref (a 16)), (1, .long (plT (fun y => R 17 (nI y).toNatClampNeg &&& 255) i)), (3, .int (nI i))] → W p l e (headSpec wsX6_toldFields ({ frames := 0, cells := 0, slots := 0, locals := 0 })).room s m ([.ref (a 16)] : List Value).toArray below meth c s.heap [] 0 0 (MQ below (vp_Sl (fun r => r = plT (fun y => (R 17) (nI y).toNatClampNeg &&& 255) (plN (I 514)))) ([.ref (a 16)] : List Value).toArray s 0 0 (fun _ => False)) (F0 m 4 ls []) := by
    intro n4
    induction n4 with
    | zero => intro i hi hks hn; exact absurd hn (Nat.not_lt_zero _)
    | succ n4 ih4 =>
      intro i hi hks hn4 ls hl
      refine lv_iload_n hx hb dX6_toldFields_4 rfl (lv_at hl 2 rfl) ?_
      refine lv_bipush (v := 8) hx hb dX6_toldFields_5 (by decide) ?_
      refine lv_icmp_ge (tgt := 43) hx hb dX6_toldFields_7 (by decide) (fun c_1 => ?_) (fun c_1 => ?_)
      · have hie := ctr_ge (N := 8) (by decide) hi c_1
        refine lv_lload_n hx hb dX6_toldFields_43 rfl (lv_at hl 1 rfl) ?_
        exact pret_l hx hb hr hlocks (congrArg (plT _) (plN_1 hks hie)) dX6_toldFields_44
      · have hlt_i := ctr_lt (N := 8) (by decide) hi c_1
        refine lv_iload_n hx hb dX6_toldFields_10 rfl (lv_at hl 2 rfl) ?_
        refine lv_aload_n hx hb dX6_toldFields_11 rfl (lv_at hl 0 rfl) ?_
        refine va_get (D := D) (ci := 5) (v := .int (I 514)) (C := RX6) (T := TX6) (N := 3) hx hb hts hi6 hown hK hP 16 rfl rfl 2 (by decide) hw0 (fun _ h9 => h9) rfl dX6_toldFields_12 ?_
        refine lv_icmp_ge (tgt := 43) hx hb dX6_toldFields_15 (by decide) (fun c_2 => ?_) (fun c_2 => ?_)
        · refine lv_lload_n hx hb dX6_toldFields_43 rfl (lv_at hl 1 rfl) ?_
          exact pret_l hx hb hr hlocks (congrArg (plT _) (plN_2 hz hks hlt_i c_2)) dX6_toldFields_44
        · refine lv_lload_n hx hb dX6_toldFields_18 rfl (lv_at hl 1 rfl) ?_
          refine lv_aload_n hx hb dX6_toldFields_19 rfl (lv_at hl 0 rfl) ?_
          refine va_get (D := D) (ci := 5) (v := .ref (a 17)) (C := RX6) (T := TX6) (N := 3) hx hb hts hi6 hown hK hP 16 rfl rfl 0 (by decide) hw1 (fun _ h9 => h9) rfl dX6_toldFields_20 ?_
          refine lv_iload_n hx hb dX6_toldFields_23 rfl (lv_at hl 2 rfl) ?_
          refine va_iald hx hb hK hP 17 0 rfl rfl (vp_in_nI (by omega) (by decide)) dX6_toldFields_24 ?_
          refine lv_sipush (v := 255) hx hb dX6_toldFields_25 (by decide) ?_
          refine lv_iand hx hb dX6_toldFields_28 ?_
          refine lv_i2l (v := (((R 17) (nI i).toNatClampNeg) &&& 255 : Int32).toInt64) hx hb dX6_toldFields_29 rfl ?_
          refine lv_bipush (v := 8) hx hb dX6_toldFields_30 (by decide) ?_
          refine lv_iload_n hx hb dX6_toldFields_32 rfl (lv_at hl 2 rfl) ?_
          refine lv_imul hx hb dX6_toldFields_33 ?_
          refine lv_lshl (v := ((((R 17) (nI i).toNatClampNeg) &&& 255 : Int32).toInt64) <<< ((8 * (nI i) : Int32).toInt64 &&& 63)) hx hb dX6_toldFields_34 rfl ?_
          refine lv_lor hx hb dX6_toldFields_35 ?_
          refine lv_lstore_n (lv' := [(1, .long ((plT (fun y => R 17 (nI y).toNatClampNeg &&& 255) i) ||| (((((R 17) (nI i).toNatClampNeg) &&& 255 : Int32).toInt64) <<< ((8 * (nI i) : Int32).toInt64 &&& 63)))), (0, .ref (a 16)), (3, .int (nI i))]) hx hb dX6_toldFields_36 rfl hl (by decide) rfl (fun ls hl => ?_)
          refine lv_iinc (v := nI (i + 1)) (lv' := [(3, .int (nI (i + 1))), (1, .long ((plT (fun y => R 17 (nI y).toNatClampNeg &&& 255) i) ||| (((((R 17) (nI i).toNatClampNeg) &&& 255 : Int32).toInt64) <<< ((8 * (nI i) : Int32).toInt64 &&& 63)))), (0, .ref (a 16))]) hx hb dX6_toldFields_37 hl (k := 2) rfl (nI_1 _) (by decide) rfl (fun ls hl => ?_)
          refine lv_goto (tgt := 4) hx hb dX6_toldFields_40 (by decide) ?_
          exact ih4 (i + 1) hlt_i (cl_lt hks c_2) (lt_dec hlt_i hn4) ls (lv_sub hl [2, 1, 0] rfl)
  refine lv_lconst (v := 0) hx hb dX6_toldFields_0 (by decide) ?_
  refine lv_lstore_n (lv' := [(1, .long 0), (0, .ref (a 16))]) hx hb dX6_toldFields_1 rfl hl (by decide) rfl (fun ls hl => ?_)
  refine lv_iconst (v := 0) hx hb dX6_toldFields_2 (by decide) ?_
  refine lv_istore_n (lv' := [(3, .int 0), (1, .long 0), (0, .ref (a 16))]) hx hb dX6_toldFields_3 rfl hl (by decide) rfl (fun ls hl => ?_)
  exact lp4 _ 0 (by omega) (Nat.zero_le _) (Nat.lt_succ_self _) ls (lv_sub hl [2, 1, 0] rfl)
set_option maxHeartbeats 4000000 in
set_option maxRecDepth 100000 in
theorem x_X6_isMissing18 (l : Launch) (D : va_G) (cy : Nat → ClassId) (a : Nat → Nat) (sz : Nat) (J : Nat → Int64) (I : Nat → Int32) (O : Nat → Option Nat) (R : Nat → Nat → Int32) (RO : Nat → Nat → Option Nat) (LL : va_W) (Y : va_W)  : Met l yX6_isMissing wsX6_isMissing ({ frames := 0, cells := 0, slots := 0, locals := 0 }) (va_Pc [.ref (a 18)] (PW D cy sz (CT cy a J I O R RO (LL ++ Y)))) (vp_Si (fun r => r = bI (decide ((I 577) = 0)))) 0 0 (fun _ => False) := by
  refine Met.ofW (cc := cX6_isMissing) (maxL := 1) (ret := (some .boolean)) (by decide) rfl ?_
  intro p e s m args below meth c s₁ B hml hv
  obtain ⟨rfl, rfl, hP, hK, hN, hD0⟩ := hv
  have hx := B.exec
  have hb := B.bytes
  have hr := B.returns
  have hts := atoms_spec (ws := wsX6_isMissing) B.pre
  have hown : s.vm.findClass RX6 = some m.cls := findClass_of_methodNamed B.named
  have hlocks := B.notSynchronized
  have hw0 := hts (.fieldLink RX6 13 "ParquetLayer$Sheet" "bits" "I") (by decide +kernel)
  have hi6 := ihX6_isMissing_6
  have hD := hD0
  have hl := lv_entry ([.ref (a 18)]) (n := 1) (Nat.le_of_ble_eq_true rfl)
  rw [lg_entry_eq]
  generalize (lg_sl ([.ref (a 18)]) ++ List.replicate (1 - (lg_sl ([.ref (a 18)])).length) Slot.unset).toArray = ls at hl ⊢
  have hl : lv_has ls 1 [(0, .ref (a 18))] := hl
  refine lv_aload_n hx hb dX6_isMissing_0 rfl (lv_at hl 0 rfl) ?_
  refine va_get (D := D) (ci := 5) (v := .int (I 577)) (C := RX6) (T := TX6) (N := 3) hx hb hts hi6 hown hK hP 18 rfl rfl 1 (by decide) hw0 (fun _ h9 => h9) rfl dX6_isMissing_1 ?_
  refine lv_if_ne (tgt := 11) hx hb dX6_isMissing_4 (by decide) (fun c_1 => ?_) (fun c_1 => ?_)
  · refine lv_iconst (v := 0) hx hb dX6_isMissing_11 (by decide) ?_
    exact pret_z hx hb hr hlocks (bd_f c_1) dX6_isMissing_12
  · refine lv_iconst (v := 1) hx hb dX6_isMissing_7 (by decide) ?_
    refine lv_goto (tgt := 12) hx hb dX6_isMissing_8 (by decide) ?_
    exact pret_z hx hb hr hlocks (bd_t c_1) dX6_isMissing_12
set_option maxHeartbeats 4000000 in
set_option maxRecDepth 100000 in
theorem x_X6_hasRange18 (l : Launch) (D : va_G) (cy : Nat → ClassId) (a : Nat → Nat) (sz : Nat) (J : Nat → Int64) (I : Nat → Int32) (O : Nat → Option Nat) (R : Nat → Nat → Int32) (RO : Nat → Nat → Option Nat) (LL : va_W) (Y : va_W) (x0 : Int32) (x1 : Int32) : Met l yX6_hasRange wsX6_hasRange ({ frames := 0, cells := 0, slots := 0, locals := 0 }) (va_Pc [.ref (a 18), .int x0, .int x1] (PW D cy sz (CT cy a J I O R RO (LL ++ Y)))) (vp_Si (fun r => r = bI (g_rng x0 x1 (I 578)))) 0 0 (fun _ => False) := by
  refine Met.ofW (cc := cX6_hasRange) (maxL := 3) (ret := (some .boolean)) (by decide) rfl ?_
  intro p e s m args below meth c s₁ B hml hv
  obtain ⟨rfl, rfl, hP, hK, hN, hD0⟩ := hv
  have hx := B.exec
  have hb := B.bytes
  have hr := B.returns
  have hts := atoms_spec (ws := wsX6_hasRange) B.pre
  have hown : s.vm.findClass RX6 = some m.cls := findClass_of_methodNamed B.named
  have hlocks := B.notSynchronized
  have hw0 := hts (.fieldLink RX6 17 "ParquetLayer$Sheet" "size" "I") (by decide +kernel)
  have hi6 := ihX6_hasRange_6
  have hD := hD0
  have hl := lv_entry ([.ref (a 18), .int x0, .int x1]) (n := 3) (Nat.le_of_ble_eq_true rfl)
  rw [lg_entry_eq]
  generalize (lg_sl ([.ref (a 18), .int x0, .int x1]) ++ List.replicate (3 - (lg_sl ([.ref (a 18), .int x0, .int x1])).length) Slot.unset).toArray = ls at hl ⊢
  have hl : lv_has ls 3 [(0, .ref (a 18)), (1, .int x0), (2, .int x1)] := hl
  refine lv_iload_n hx hb dX6_hasRange_0 rfl (lv_at hl 1 rfl) ?_
  refine lv_if_lt (tgt := 30) hx hb dX6_hasRange_1 (by decide) (fun c_1 => ?_) (fun c_1 => ?_)
  · refine lv_iconst (v := 0) hx hb dX6_hasRange_30 (by decide) ?_
    exact pret_z hx hb hr hlocks (rn_f (Or.inl c_1)) dX6_hasRange_31
  · refine lv_iload_n hx hb dX6_hasRange_4 rfl (lv_at hl 2 rfl) ?_
    refine lv_if_lt (tgt := 30) hx hb dX6_hasRange_5 (by decide) (fun c_2 => ?_) (fun c_2 => ?_)
    · refine lv_iconst (v := 0) hx hb dX6_hasRange_30 (by decide) ?_
      exact pret_z hx hb hr hlocks (rn_f (Or.inr (Or.inl c_2))) dX6_hasRange_31
    · refine lv_iload_n hx hb dX6_hasRange_8 rfl (lv_at hl 2 rfl) ?_
      refine lv_aload_n hx hb dX6_hasRange_9 rfl (lv_at hl 0 rfl) ?_
      refine va_get (D := D) (ci := 5) (v := .int (I 578)) (C := RX6) (T := TX6) (N := 3) hx hb hts hi6 hown hK hP 18 rfl rfl 2 (by decide) hw0 (fun _ h9 => h9) rfl dX6_hasRange_10 ?_
      refine lv_icmp_gt (tgt := 30) hx hb dX6_hasRange_13 (by decide) (fun c_3 => ?_) (fun c_3 => ?_)
      · refine lv_iconst (v := 0) hx hb dX6_hasRange_30 (by decide) ?_
        exact pret_z hx hb hr hlocks (rn_f (Or.inr (Or.inr (Or.inl c_3)))) dX6_hasRange_31
      · refine lv_iload_n hx hb dX6_hasRange_16 rfl (lv_at hl 1 rfl) ?_
        refine lv_aload_n hx hb dX6_hasRange_17 rfl (lv_at hl 0 rfl) ?_
        refine va_get (D := D) (ci := 5) (v := .int (I 578)) (C := RX6) (T := TX6) (N := 3) hx hb hts hi6 hown hK hP 18 rfl rfl 2 (by decide) hw0 (fun _ h9 => h9) rfl dX6_hasRange_18 ?_
        refine lv_iload_n hx hb dX6_hasRange_21 rfl (lv_at hl 2 rfl) ?_
        refine lv_isub hx hb dX6_hasRange_22 ?_
        refine lv_icmp_gt (tgt := 30) hx hb dX6_hasRange_23 (by decide) (fun c_4 => ?_) (fun c_4 => ?_)
        · refine lv_iconst (v := 0) hx hb dX6_hasRange_30 (by decide) ?_
          exact pret_z hx hb hr hlocks (rn_f (Or.inr (Or.inr (Or.inr c_4)))) dX6_hasRange_31
        · refine lv_iconst (v := 1) hx hb dX6_hasRange_26 (by decide) ?_
          refine lv_goto (tgt := 31) hx hb dX6_hasRange_27 (by decide) ?_
          exact pret_z hx hb hr hlocks (rn_t c_1 c_2 c_3 c_4) dX6_hasRange_31
set_option maxHeartbeats 4000000 in
set_option maxRecDepth 100000 in
theorem x_X6_begin18 (l : Launch) (D : va_G) (cy : Nat → ClassId) (a : Nat → Nat) (sz : Nat) (J : Nat → Int64) (I : Nat → Int32) (O : Nat → Option Nat) (R : Nat → Nat → Int32) (RO : Nat → Nat → Option Nat) (LL : va_W) (Y : va_W) (x0 : Int32) (x1 : Int32) (hx1 : vp_in x1 17) (hM : CI a Y I O RO) : Met l yX6_begin wsX6_begin ({ frames := 1, cells := 0, slots := 0, locals := 23 }) (va_Pc [.ref (a 18), .int x0, .int x1] (PW D cy sz (CT cy a J I O R RO (LL ++ Y)))) (va_Qv (fun (u : TS) => ∃ (w0 : Int32), ∃ (w1 : Int32), ∃ (w2 : Nat → Int32), ((vp_in w1 17) ∧ (w1 = (if x0 = 0 then 0 else x1)) ∧ (w0 = x0) ∧ (∀ p, p < 16 → w2 p = 0)) ∧ u = (J, (va_up (va_up I 577 w0) 578 w1), O, (va_up R 19 w2), RO, LL, Y)) (BW D (va_A (CT cy a J I O R RO (LL ++ Y)) sz) (CTu cy a)) (va_A (CT cy a J I O R RO (LL ++ Y)) sz)) 0 0 (va_A (CT cy a J I O R RO (LL ++ Y)) sz) := by
  refine Met.ofW (cc := cX6_begin) (maxL := 3) (ret := none) (by decide) rfl ?_
  intro p e s m args below meth c s₁ B hml hv
  obtain ⟨rfl, rfl, hP, hK, hN, hD0⟩ := hv
  have hx := B.exec
  have hb := B.bytes
  have hr := B.returns
  have hts := atoms_spec (ws := wsX6_begin) B.pre
  have hown : s.vm.findClass RX6 = some m.cls := findClass_of_methodNamed B.named
  have hlocks := B.notSynchronized
  have hw0 := hts (.fieldLink RX6 13 "ParquetLayer$Sheet" "bits" "I") (by decide +kernel)
  have hw1 := hts (.fieldLink RX6 17 "ParquetLayer$Sheet" "size" "I") (by decide +kernel)
  have hw2 := hts (.fieldLink RX6 9 "ParquetLayer$Sheet" "numbers" "[I") (by decide +kernel)
  have hi6 := ihX6_begin_6
  have hD := hD0.self (sz := s.heap.size)
  generalize hAe : va_A (CT cy a J I O R RO (LL ++ Y)) s.heap.size = A at hD ⊢
  have hA : ∀ q : Nat, s.heap.size ≤ q → A q := fun q h => by rw [← hAe]; exact Or.inr h
  have hS : va_S A s.heap s.heap [] := va_S.rf
  have hl := lv_entry ([.ref (a 18), .int x0, .int x1]) (n := 3) (Nat.le_of_ble_eq_true rfl)
  rw [lg_entry_eq]
  generalize (lg_sl ([.ref (a 18), .int x0, .int x1]) ++ List.replicate (3 - (lg_sl ([.ref (a 18), .int x0, .int x1])).length) Slot.unset).toArray = ls at hl ⊢
  have hl : lv_has ls 3 [(0, .ref (a 18)), (1, .int x0), (2, .int x1)] := hl
  have hRO0 := hM.2.2.2.2.2.2.2.2.1
  have hRO1 := hM.2.2.2.2.2.2.2.2.2.1
  have hRO2 := hM.2.2.2.2.2.2.2.2.2.2.1
  have hRO3 := hM.2.2.2.2.2.2.2.2.2.2.2
  have hP : va_P D vwCl (CT cy a J (va_up (va_up I 577 (I 577)) 578 (I 578)) O (va_up R 19 (R 19)) RO (LL ++ Y)) s.heap := hP
  have hD : va_D A (CT cy a J (va_up (va_up I 577 (I 577)) 578 (I 578)) O (va_up R 19 (R 19)) RO (LL ++ Y)) := hD
  refine lv_aload_n hx hb dX6_begin_0 rfl (lv_at hl 0 rfl) ?_
  refine lv_iload_n hx hb dX6_begin_1 rfl (lv_at hl 1 rfl) ?_
  refine va_put (D := D) (ci := 5) (v := .int x0) (ty := .int) (C := RX6) (T := TX6) (N := 3) hx hb hts hi6 tyX6 tyX6_ok nmX6 hown hK hP hD hS 18 rfl rfl 1 (by decide) hw0 (fun _ h9 => h9) rfl (by decide +kernel) rfl rfl (Nat.le_of_ble_eq_true rfl) dX6_begin_2 (fun H locs hP hD hS => ?_)
  have hP : va_P D vwCl (CT cy a J (va_up (va_up I 577 x0) 578 (I 578)) O (va_up R 19 (R 19)) RO (LL ++ Y)) H := hP
  have hD : va_D A (CT cy a J (va_up (va_up I 577 x0) 578 (I 578)) O (va_up R 19 (R 19)) RO (LL ++ Y)) := hD
  refine lv_aload_n hx hb dX6_begin_5 rfl (lv_at hl 0 rfl) ?_
  refine lv_iload_n hx hb dX6_begin_6 rfl (lv_at hl 1 rfl) ?_
  refine lv_if_ne (tgt := 14) hx hb dX6_begin_7 (by decide) (fun c_1 => ?_) (fun c_1 => ?_)
  · refine lv_iload_n hx hb dX6_begin_14 rfl (lv_at hl 2 rfl) ?_
    refine va_put (D := D) (ci := 5) (v := .int x1) (ty := .int) (C := RX6) (T := TX6) (N := 3) hx hb hts hi6 tyX6 tyX6_ok nmX6 hown hK hP hD hS 18 rfl rfl 2 (by decide) hw1 (fun _ h9 => h9) rfl (by decide +kernel) rfl rfl (Nat.le_of_ble_eq_true rfl) dX6_begin_15 (fun H locs hP hD hS => ?_)
    have hP : va_P D vwCl (CT cy a J (va_up (va_up I 577 x0) 578 x1) O (va_up R 19 (R 19)) RO (LL ++ Y)) H := hP
    have hD : va_D A (CT cy a J (va_up (va_up I 577 x0) 578 x1) O (va_up R 19 (R 19)) RO (LL ++ Y)) := hD
    have hi_2 : vp_in x1 17 := hx1
    refine lv_aload_n hx hb dX6_begin_18 rfl (lv_at hl 0 rfl) ?_
    refine va_get (D := D) (ci := 5) (v := .ref (a 19)) (C := RX6) (T := TX6) (N := 3) hx hb hts hi6 hown hK hP 18 rfl rfl 0 (by decide) hw2 (fun _ h9 => h9) rfl dX6_begin_19 ?_
    refine lv_iconst (v := 0) hx hb dX6_begin_22 (by decide) ?_
    refine kW_v (As := [.ref (a 19), .int 0]) (rest := []) ⟨hx, hb, hml, hown, hts⟩ (x_fill19 l D cy a _ J (va_up (va_up I 577 x0) 578 x1) O (va_up R 19 (R 19)) RO LL Y (0 : Int32)   ) (va_cwS 2 hts gX6_begin_J7_fill_53178 rfl rfl rfl (by decide +kernel) ⟨Nat.le_of_ble_eq_true rfl, Nat.le_of_ble_eq_true rfl⟩) hK hN hP hD hS hA rfl hl.1 rfl (Nat.le_of_ble_eq_true rfl) dX6_begin_23 ⟨Nat.le_of_ble_eq_true rfl, Nat.le_of_ble_eq_true rfl⟩ (fun u H locs hw hP hD hS => ?_)
    obtain ⟨w_4, hp_5, rfl⟩ := hw
    have hP : va_P D vwCl (CT cy a J (va_up (va_up I 577 x0) 578 x1) O (va_up R 19 w_4) RO (LL ++ Y)) H := hP
    have hD : va_D A (CT cy a J (va_up (va_up I 577 x0) 578 x1) O (va_up R 19 w_4) RO (LL ++ Y)) := hD
    exact wret_v hx hb hr hlocks (J, (va_up (va_up I 577 x0) 578 x1), O, (va_up R 19 w_4), RO, LL, Y) ⟨x0, x1, w_4, ⟨hi_2, (if_neg c_1).symm, rfl, hp_5⟩, rfl⟩ hP hD hS dX6_begin_26
  · refine lv_iconst (v := 0) hx hb dX6_begin_10 (by decide) ?_
    refine lv_goto (tgt := 15) hx hb dX6_begin_11 (by decide) ?_
    refine va_put (D := D) (ci := 5) (v := .int 0) (ty := .int) (C := RX6) (T := TX6) (N := 3) hx hb hts hi6 tyX6 tyX6_ok nmX6 hown hK hP hD hS 18 rfl rfl 2 (by decide) hw1 (fun _ h9 => h9) rfl (by decide +kernel) rfl rfl (Nat.le_of_ble_eq_true rfl) dX6_begin_15 (fun H locs hP hD hS => ?_)
    have hP : va_P D vwCl (CT cy a J (va_up (va_up I 577 x0) 578 0) O (va_up R 19 (R 19)) RO (LL ++ Y)) H := hP
    have hD : va_D A (CT cy a J (va_up (va_up I 577 x0) 578 0) O (va_up R 19 (R 19)) RO (LL ++ Y)) := hD
    have hi_6 : vp_in 0 17 := (by unfold vp_in; decide)
    refine lv_aload_n hx hb dX6_begin_18 rfl (lv_at hl 0 rfl) ?_
    refine va_get (D := D) (ci := 5) (v := .ref (a 19)) (C := RX6) (T := TX6) (N := 3) hx hb hts hi6 hown hK hP 18 rfl rfl 0 (by decide) hw2 (fun _ h9 => h9) rfl dX6_begin_19 ?_
    refine lv_iconst (v := 0) hx hb dX6_begin_22 (by decide) ?_
    refine kW_v (As := [.ref (a 19), .int 0]) (rest := []) ⟨hx, hb, hml, hown, hts⟩ (x_fill19 l D cy a _ J (va_up (va_up I 577 x0) 578 0) O (va_up R 19 (R 19)) RO LL Y (0 : Int32)   ) (va_cwS 2 hts gX6_begin_J7_fill_53178 rfl rfl rfl (by decide +kernel) ⟨Nat.le_of_ble_eq_true rfl, Nat.le_of_ble_eq_true rfl⟩) hK hN hP hD hS hA rfl hl.1 rfl (Nat.le_of_ble_eq_true rfl) dX6_begin_23 ⟨Nat.le_of_ble_eq_true rfl, Nat.le_of_ble_eq_true rfl⟩ (fun u H locs hw hP hD hS => ?_)
    obtain ⟨w_8, hp_9, rfl⟩ := hw
    have hP : va_P D vwCl (CT cy a J (va_up (va_up I 577 x0) 578 0) O (va_up R 19 w_8) RO (LL ++ Y)) H := hP
    have hD : va_D A (CT cy a J (va_up (va_up I 577 x0) 578 0) O (va_up R 19 w_8) RO (LL ++ Y)) := hD
    exact wret_v hx hb hr hlocks (J, (va_up (va_up I 577 x0) 578 0), O, (va_up R 19 w_8), RO, LL, Y) ⟨x0, 0, w_8, ⟨hi_6, (if_pos c_1).symm, rfl, hp_9⟩, rfl⟩ hP hD hS dX6_begin_26
set_option maxHeartbeats 4000000 in
set_option maxRecDepth 100000 in
theorem x_X6_write18 (l : Launch) (D : va_G) (cy : Nat → ClassId) (a : Nat → Nat) (sz : Nat) (J : Nat → Int64) (I : Nat → Int32) (O : Nat → Option Nat) (R : Nat → Nat → Int32) (RO : Nat → Nat → Option Nat) (LL : va_W) (Y : va_W) (x0 : Int32) (x1 : Int32) (hx0 : vp_in x0 16) : Met l yX6_write wsX6_write ({ frames := 0, cells := 0, slots := 0, locals := 0 }) (va_Pc [.ref (a 18), .int x0, .int x1] (PW D cy sz (CT cy a J I O R RO (LL ++ Y)))) (va_Qv (fun (u : TS) => ∃ (w0 : Nat → Int32), ((w0 = upd (R 19) x0.toNatClampNeg (if I 577 = 32 then x1 else x1 &&& (((1 : Int32) <<< (I 577 &&& 31)) - 1)))) ∧ u = (J, I, O, (va_up R 19 w0), RO, LL, Y)) (BW D (va_A (CT cy a J I O R RO (LL ++ Y)) sz) (CTu cy a)) (va_A (CT cy a J I O R RO (LL ++ Y)) sz)) 0 0 (va_A (CT cy a J I O R RO (LL ++ Y)) sz) := by
  refine Met.ofW (cc := cX6_write) (maxL := 3) (ret := none) (by decide) rfl ?_
  intro p e s m args below meth c s₁ B hml hv
  obtain ⟨rfl, rfl, hP, hK, hN, hD0⟩ := hv
  have hx := B.exec
  have hb := B.bytes
  have hr := B.returns
  have hts := atoms_spec (ws := wsX6_write) B.pre
  have hown : s.vm.findClass RX6 = some m.cls := findClass_of_methodNamed B.named
  have hlocks := B.notSynchronized
  have hw0 := hts (.fieldLink RX6 9 "ParquetLayer$Sheet" "numbers" "[I") (by decide +kernel)
  have hw1 := hts (.fieldLink RX6 13 "ParquetLayer$Sheet" "bits" "I") (by decide +kernel)
  have hi6 := ihX6_write_6
  have hD := hD0.self (sz := s.heap.size)
  generalize hAe : va_A (CT cy a J I O R RO (LL ++ Y)) s.heap.size = A at hD ⊢
  have hA : ∀ q : Nat, s.heap.size ≤ q → A q := fun q h => by rw [← hAe]; exact Or.inr h
  have hS : va_S A s.heap s.heap [] := va_S.rf
  have hl := lv_entry ([.ref (a 18), .int x0, .int x1]) (n := 3) (Nat.le_of_ble_eq_true rfl)
  rw [lg_entry_eq]
  generalize (lg_sl ([.ref (a 18), .int x0, .int x1]) ++ List.replicate (3 - (lg_sl ([.ref (a 18), .int x0, .int x1])).length) Slot.unset).toArray = ls at hl ⊢
  have hl : lv_has ls 3 [(0, .ref (a 18)), (1, .int x0), (2, .int x1)] := hl
  have hP : va_P D vwCl (CT cy a J I O (va_up R 19 (R 19)) RO (LL ++ Y)) s.heap := hP
  have hD : va_D A (CT cy a J I O (va_up R 19 (R 19)) RO (LL ++ Y)) := hD
  refine lv_iload_n hx hb dX6_write_0 rfl (lv_at hl 1 rfl) ?_
  refine lv_if_lt (tgt := 39) hx hb dX6_write_1 (by decide) (fun c_1 => ?_) (fun c_1 => ?_)
  · exact wret_v hx hb hr hlocks (J, I, O, (va_up R 19 (R 19)), RO, LL, Y) ⟨(R 19), (absurd c_1 (wr_0 hx0)), rfl⟩ hP hD hS dX6_write_39
  · refine lv_iload_n hx hb dX6_write_4 rfl (lv_at hl 1 rfl) ?_
    refine lv_bipush (v := 16) hx hb dX6_write_5 (by decide) ?_
    refine lv_icmp_ge (tgt := 39) hx hb dX6_write_7 (by decide) (fun c_2 => ?_) (fun c_2 => ?_)
    · exact wret_v hx hb hr hlocks (J, I, O, (va_up R 19 (R 19)), RO, LL, Y) ⟨(R 19), (absurd c_2 (wr_16 hx0)), rfl⟩ hP hD hS dX6_write_39
    · refine lv_aload_n hx hb dX6_write_10 rfl (lv_at hl 0 rfl) ?_
      refine va_get (D := D) (ci := 5) (v := .ref (a 19)) (C := RX6) (T := TX6) (N := 3) hx hb hts hi6 hown hK hP 18 rfl rfl 0 (by decide) hw0 (fun _ h9 => h9) rfl dX6_write_11 ?_
      refine lv_iload_n hx hb dX6_write_14 rfl (lv_at hl 1 rfl) ?_
      refine lv_aload_n hx hb dX6_write_15 rfl (lv_at hl 0 rfl) ?_
      refine va_get (D := D) (ci := 5) (v := .int (I 577)) (C := RX6) (T := TX6) (N := 3) hx hb hts hi6 hown hK hP 18 rfl rfl 1 (by decide) hw1 (fun _ h9 => h9) rfl dX6_write_16 ?_
      refine lv_bipush (v := 32) hx hb dX6_write_19 (by decide) ?_
      refine lv_icmp_ne (tgt := 28) hx hb dX6_write_21 (by decide) (fun c_3 => ?_) (fun c_3 => ?_)
      · refine lv_iload_n hx hb dX6_write_28 rfl (lv_at hl 2 rfl) ?_
        refine lv_iconst (v := 1) hx hb dX6_write_29 (by decide) ?_
        refine lv_aload_n hx hb dX6_write_30 rfl (lv_at hl 0 rfl) ?_
        refine va_get (D := D) (ci := 5) (v := .int (I 577)) (C := RX6) (T := TX6) (N := 3) hx hb hts hi6 hown hK hP 18 rfl rfl 1 (by decide) hw1 (fun _ h9 => h9) rfl dX6_write_31 ?_
        refine lv_ishl hx hb dX6_write_34 ?_
        refine lv_iconst (v := 1) hx hb dX6_write_35 (by decide) ?_
        refine lv_isub hx hb dX6_write_36 ?_
        refine lv_iand hx hb dX6_write_37 ?_
        refine va_iast hx hb hK hP hD hS 19 0 rfl rfl hx0 dX6_write_38 (fun H locs hP hD hS => ?_)
        have hP : va_P D vwCl (CT cy a J I O (va_up R 19 (upd (R 19) x0.toNatClampNeg (x1 &&& ((1 <<< ((I 577) &&& 31)) - 1)))) RO (LL ++ Y)) H := hP
        have hD : va_D A (CT cy a J I O (va_up R 19 (upd (R 19) x0.toNatClampNeg (x1 &&& ((1 <<< ((I 577) &&& 31)) - 1)))) RO (LL ++ Y)) := hD
        exact wret_v hx hb hr hlocks (J, I, O, (va_up R 19 (upd (R 19) x0.toNatClampNeg (x1 &&& ((1 <<< ((I 577) &&& 31)) - 1)))), RO, LL, Y) ⟨(upd (R 19) x0.toNatClampNeg (x1 &&& ((1 <<< ((I 577) &&& 31)) - 1))), (by rw [if_neg c_3]), rfl⟩ hP hD hS dX6_write_39
      · refine lv_iload_n hx hb dX6_write_24 rfl (lv_at hl 2 rfl) ?_
        refine lv_goto (tgt := 38) hx hb dX6_write_25 (by decide) ?_
        refine va_iast hx hb hK hP hD hS 19 0 rfl rfl hx0 dX6_write_38 (fun H locs hP hD hS => ?_)
        have hP : va_P D vwCl (CT cy a J I O (va_up R 19 (upd (R 19) x0.toNatClampNeg x1)) RO (LL ++ Y)) H := hP
        have hD : va_D A (CT cy a J I O (va_up R 19 (upd (R 19) x0.toNatClampNeg x1)) RO (LL ++ Y)) := hD
        exact wret_v hx hb hr hlocks (J, I, O, (va_up R 19 (upd (R 19) x0.toNatClampNeg x1)), RO, LL, Y) ⟨(upd (R 19) x0.toNatClampNeg x1), (by rw [if_pos c_3]), rfl⟩ hP hD hS dX6_write_39
set_option maxHeartbeats 4000000 in
set_option maxRecDepth 100000 in
theorem x_X6_toldFields18 (l : Launch) (D : va_G) (cy : Nat → ClassId) (a : Nat → Nat) (sz : Nat) (J : Nat → Int64) (I : Nat → Int32) (O : Nat → Option Nat) (R : Nat → Nat → Int32) (RO : Nat → Nat → Option Nat) (LL : va_W) (Y : va_W)  (hz : vp_in (I 578) 17) : Met l yX6_toldFields wsX6_toldFields ({ frames := 0, cells := 0, slots := 0, locals := 0 }) (va_Pc [.ref (a 18)] (PW D cy sz (CT cy a J I O R RO (LL ++ Y)))) (vp_Sl (fun r => r = plT (fun y => (R 19) (nI y).toNatClampNeg &&& 255) (plN (I 578)))) 0 0 (fun _ => False) := by
  refine Met.ofW (cc := cX6_toldFields) (maxL := 4) (ret := (some .long)) (by decide) rfl ?_
  intro p e s m args below meth c s₁ B hml hv
  obtain ⟨rfl, rfl, hP, hK, hN, hD0⟩ := hv
  have hx := B.exec
  have hb := B.bytes
  have hr := B.returns
  have hts := atoms_spec (ws := wsX6_toldFields) B.pre
  have hown : s.vm.findClass RX6 = some m.cls := findClass_of_methodNamed B.named
  have hlocks := B.notSynchronized
  have hw0 := hts (.fieldLink RX6 17 "ParquetLayer$Sheet" "size" "I") (by decide +kernel)
  have hw1 := hts (.fieldLink RX6 9 "ParquetLayer$Sheet" "numbers" "[I") (by decide +kernel)
  have hi6 := ihX6_toldFields_6
  have hD := hD0
  have hl := lv_entry ([.ref (a 18)]) (n := 4) (Nat.le_of_ble_eq_true rfl)
  rw [lg_entry_eq]
  generalize (lg_sl ([.ref (a 18)]) ++ List.replicate (4 - (lg_sl ([.ref (a 18)])).length) Slot.unset).toArray = ls at hl ⊢
  have hl : lv_has ls 4 [(0, .ref (a 18))] := hl
  have lp4 : ∀ (n4 : Nat), ∀ (i : Nat), (i ≤ 8) → (i ≤ (I 578).toNatClampNeg) → (8 - i) < n4 → ∀ (ls : Array Slot), lv_has ls 4 [(0, .ref (a 18)), (1, .long (plT (fun y => R 19 (nI y).toNatClampNeg &&& 255) i)), (3, .int (nI i))] → W p l e (headSpec wsX6_toldFields ({ frames := 0, cells := 0, slots := 0, locals := 0 })).room s m ([.ref (a 18)] : List Value).toArray below meth c s.heap [] 0 0 (MQ below (vp_Sl (fun r => r = plT (fun y => (R 19) (nI y).toNatClampNeg &&& 255) (plN (I 578)))) ([.ref (a 18)] : List Value).toArray s 0 0 (fun _ => False)) (F0 m 4 ls []) := by
    intro n4
    induction n4 with
    | zero => intro i hi hks hn; exact absurd hn (Nat.not_lt_zero _)
    | succ n4 ih4 =>
      intro i hi hks hn4 ls hl
      refine lv_iload_n hx hb dX6_toldFields_4 rfl (lv_at hl 2 rfl) ?_
      refine lv_bipush (v := 8) hx hb dX6_toldFields_5 (by decide) ?_
      refine lv_icmp_ge (tgt := 43) hx hb dX6_toldFields_7 (by decide) (fun c_1 => ?_) (fun c_1 => ?_)
      · have hie := ctr_ge (N := 8) (by decide) hi c_1
        refine lv_lload_n hx hb dX6_toldFields_43 rfl (lv_at hl 1 rfl) ?_
        exact pret_l hx hb hr hlocks (congrArg (plT _) (plN_1 hks hie)) dX6_toldFields_44
      · have hlt_i := ctr_lt (N := 8) (by decide) hi c_1
        refine lv_iload_n hx hb dX6_toldFields_10 rfl (lv_at hl 2 rfl) ?_
        refine lv_aload_n hx hb dX6_toldFields_11 rfl (lv_at hl 0 rfl) ?_
        refine va_get (D := D) (ci := 5) (v := .int (I 578)) (C := RX6) (T := TX6) (N := 3) hx hb hts hi6 hown hK hP 18 rfl rfl 2 (by decide) hw0 (fun _ h9 => h9) rfl dX6_toldFields_12 ?_
        refine lv_icmp_ge (tgt := 43) hx hb dX6_toldFields_15 (by decide) (fun c_2 => ?_) (fun c_2 => ?_)
        · refine lv_lload_n hx hb dX6_toldFields_43 rfl (lv_at hl 1 rfl) ?_
          exact pret_l hx hb hr hlocks (congrArg (plT _) (plN_2 hz hks hlt_i c_2)) dX6_toldFields_44
        · refine lv_lload_n hx hb dX6_toldFields_18 rfl (lv_at hl 1 rfl) ?_
          refine lv_aload_n hx hb dX6_toldFields_19 rfl (lv_at hl 0 rfl) ?_
          refine va_get (D := D) (ci := 5) (v := .ref (a 19)) (C := RX6) (T := TX6) (N := 3) hx hb hts hi6 hown hK hP 18 rfl rfl 0 (by decide) hw1 (fun _ h9 => h9) rfl dX6_toldFields_20 ?_
          refine lv_iload_n hx hb dX6_toldFields_23 rfl (lv_at hl 2 rfl) ?_
          refine va_iald hx hb hK hP 19 0 rfl rfl (vp_in_nI (by omega) (by decide)) dX6_toldFields_24 ?_
          refine lv_sipush (v := 255) hx hb dX6_toldFields_25 (by decide) ?_
          refine lv_iand hx hb dX6_toldFields_28 ?_
          refine lv_i2l (v := (((R 19) (nI i).toNatClampNeg) &&& 255 : Int32).toInt64) hx hb dX6_toldFields_29 rfl ?_
          refine lv_bipush (v := 8) hx hb dX6_toldFields_30 (by decide) ?_
          refine lv_iload_n hx hb dX6_toldFields_32 rfl (lv_at hl 2 rfl) ?_
          refine lv_imul hx hb dX6_toldFields_33 ?_
          refine lv_lshl (v := ((((R 19) (nI i).toNatClampNeg) &&& 255 : Int32).toInt64) <<< ((8 * (nI i) : Int32).toInt64 &&& 63)) hx hb dX6_toldFields_34 rfl ?_
          refine lv_lor hx hb dX6_toldFields_35 ?_
          refine lv_lstore_n (lv' := [(1, .long ((plT (fun y => R 19 (nI y).toNatClampNeg &&& 255) i) ||| (((((R 19) (nI i).toNatClampNeg) &&& 255 : Int32).toInt64) <<< ((8 * (nI i) : Int32).toInt64 &&& 63)))), (0, .ref (a 18)), (3, .int (nI i))]) hx hb dX6_toldFields_36 rfl hl (by decide) rfl (fun ls hl => ?_)
          refine lv_iinc (v := nI (i + 1)) (lv' := [(3, .int (nI (i + 1))), (1, .long ((plT (fun y => R 19 (nI y).toNatClampNeg &&& 255) i) ||| (((((R 19) (nI i).toNatClampNeg) &&& 255 : Int32).toInt64) <<< ((8 * (nI i) : Int32).toInt64 &&& 63)))), (0, .ref (a 18))]) hx hb dX6_toldFields_37 hl (k := 2) rfl (nI_1 _) (by decide) rfl (fun ls hl => ?_)
          refine lv_goto (tgt := 4) hx hb dX6_toldFields_40 (by decide) ?_
          exact ih4 (i + 1) hlt_i (cl_lt hks c_2) (lt_dec hlt_i hn4) ls (lv_sub hl [2, 1, 0] rfl)
  refine lv_lconst (v := 0) hx hb dX6_toldFields_0 (by decide) ?_
  refine lv_lstore_n (lv' := [(1, .long 0), (0, .ref (a 18))]) hx hb dX6_toldFields_1 rfl hl (by decide) rfl (fun ls hl => ?_)
  refine lv_iconst (v := 0) hx hb dX6_toldFields_2 (by decide) ?_
  refine lv_istore_n (lv' := [(3, .int 0), (1, .long 0), (0, .ref (a 18))]) hx hb dX6_toldFields_3 rfl hl (by decide) rfl (fun ls hl => ?_)
  exact lp4 _ 0 (by omega) (Nat.zero_le _) (Nat.lt_succ_self _) ls (lv_sub hl [2, 1, 0] rfl)
