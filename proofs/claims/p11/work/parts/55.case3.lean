theorem dL_law_561 : decode cL_law 561 = .ok (.aload_n 1, 1) := by decide +kernel
theorem dL_law_562 : decode cL_law 562 = .ok (.aload_n 0, 1) := by decide +kernel
theorem dL_law_563 : decode cL_law 563 = .ok (.iload_n 3, 1) := by decide +kernel
theorem dL_law_564 : decode cL_law 564 = .ok (.iconst 1, 1) := by decide +kernel
theorem dL_law_565 : decode cL_law 565 = .ok (.iadd, 1) := by decide +kernel
theorem dL_law_566 : decode cL_law 566 = .ok (.iaload, 1) := by decide +kernel
theorem dL_law_567 : decode cL_law 567 = .ok (.invokevirtual 78, 3) := by decide +kernel
theorem dL_law_570 : decode cL_law 570 = .ok (.pop, 1) := by decide +kernel
theorem dL_law_571 : decode cL_law 571 = .ok (.aload_n 2, 1) := by decide +kernel
theorem dL_law_572 : decode cL_law 572 = .ok (.aload_n 0, 1) := by decide +kernel
theorem dL_law_573 : decode cL_law 573 = .ok (.iload_n 3, 1) := by decide +kernel
theorem dL_law_574 : decode cL_law 574 = .ok (.iconst 1, 1) := by decide +kernel
theorem dL_law_575 : decode cL_law 575 = .ok (.iadd, 1) := by decide +kernel
theorem dL_law_576 : decode cL_law 576 = .ok (.iaload, 1) := by decide +kernel
theorem dL_law_577 : decode cL_law 577 = .ok (.invokevirtual 81, 3) := by decide +kernel
theorem dL_law_580 : decode cL_law 580 = .ok (.pop, 1) := by decide +kernel
theorem dL_law_581 : decode cL_law 581 = .ok (.goto 454, 3) := by decide +kernel
set_option maxHeartbeats 4000000 in
set_option maxRecDepth 100000 in
theorem law_15 {p : Program} {e : Env} {s : State} {m : MethodId} {below : List Frame} {meth : Method} {c : Code} (l : Launch) {b L : Nat} {xs : Nat → Int32} {D : va_G} {cy : Nat → ClassId} (C0 : lawCtx p s m meth c b L xs D cy) (ax am : Nat → Nat) (k : Nat) (hk : 6 * k + 6 ≤ L) (hL384 : L ≤ 384) (Jm : Nat → Int64) (Im : Nat → Int32) (Rm : Nat → Nat → Int32) (RJm : Nat → Nat → Int64) (J : Nat → Int64) (I : Nat → Int32) (O : Nat → Option Nat) (R : Nat → Nat → Int32) (RO : Nat → Nat → Option Nat) (LL Y : va_W) (fl : Int64) (S : List Int32) (P : List PE) (Bs Zs : Nat → Int32) (Vs : Nat → Nat → Int32) (hMm : MI Im Rm) (hM : CI ax Y I O RO) (hLk : LOK cy (O 5) LL) (hQ6 : ∀ i, i < 81 → vp_in (R 6 i) 81) (hQ : Q64 (R 11)) (hF : Q64 (R 10)) (hAm : RMf (Jm 0) (Im 1) (Im 12) (Rm 1) (Rm 3) (Rm 4) (RJm 2) fl S P) (hSm : RMs (Rm 8) (Rm 9) (Rm 10) Bs Zs Vs) (hAc : RCf Y (J 6) (O 7) (I 9) (RO 2) fl S P) (hSc : RCs (I 385) (I 386) (R 13) (I 449) (I 450) (R 15) (I 513) (I 514) (R 17) (I 577) (I 578) (R 19) Bs Zs Vs) (hG : gAll fl S P) (kk : LK p l e s m below meth c b D cy ax am k (39 + 17 * (k + 1)) (18292 + 85786 * (k + 1)) 1035) (H : Heap) (locs : List Loc) (hP : va_P D vwCl (MW cy am Jm Im Rm RJm ++ CT cy ax J I O R RO (LL ++ Y)) H) (hD : va_D (fun q : Nat => s.heap.size ≤ q) (MW cy am Jm Im Rm RJm ++ CT cy ax J I O R RO (LL ++ Y))) (hS : va_S (fun q : Nat => s.heap.size ≤ q) s.heap H locs) (ls : Array Slot) (hl : lv_has ls 4 [(0, .ref b), (1, .ref (ax 0)), (2, .ref (am 0)), (3, .int (nI (6 * k)))]) : W p l e room_1 s m #[Value.ref b] below meth c H locs (39 + 17 * k) (18292 + 85786 * k) (lw_Z below #[Value.ref b] s) (F0 m 561 ls []) := by
  obtain ⟨⟨hx, hb, hr, hml, hown, hts, hX, hbl, hlocks, hgv⟩, hK, hN⟩ := C0
  have hown : s.vm.findClass RL = some m.cls := hown
  have hA : ∀ q : Nat, s.heap.size ≤ q → (fun q : Nat => s.heap.size ≤ q) q := fun _ h => h
  have hbA : ¬ (fun q : Nat => s.heap.size ≤ q) b := Nat.not_le.mpr hbl
  have hRO0 := hM.2.2.2.2.2.2.2.2.1
  have hRO1 := hM.2.2.2.2.2.2.2.2.2.1
  have hRO2 := hM.2.2.2.2.2.2.2.2.2.2.1
  have hRO3 := hM.2.2.2.2.2.2.2.2.2.2.2
  refine lv_aload_n hx hb dL_law_561 rfl (lv_at hl 1 rfl) ?_
  refine lv_aload_n hx hb dL_law_562 rfl (lv_at hl 0 rfl) ?_
  refine lv_iload_n hx hb dL_law_563 rfl (lv_at hl 3 rfl) ?_
  refine lv_iconst (v := 1) hx hb dL_law_564 (by decide) ?_
  refine lv_iadd hx hb dL_law_565 ?_
  refine wtop_i (y := nI (6 * k + 1)) (by rw [← nI_add]; rfl) ?_
  refine va_sld hx hb hX hbl hbA hS (vp_in_nI (show 6 * k + 1 < L by omega) (by omega)) dL_law_566 ?_
  refine wtop_i (y := xs (6 * k + 1)) (by rw [nI_clamp (show 6 * k + 1 < 2 ^ 31 by omega)]) ?_
  refine kX_i (As := [.int (xs (6 * k + 1))]) (rest := []) (q0 := 0) ⟨hx, hb, hml, hown, hts⟩ (t_X9_turn l D cy ax _ J I O R RO LL Y (xs (6 * k + 1))  ⟨hM.1, hM.2.1, hM.2.2.1, hM.2.2.2.1, hM.2.2.2.2.1, hM.2.2.2.2.2.1, hM.2.2.2.2.2.2.1, hM.2.2.2.2.2.2.2.1, hRO0, hRO1, hRO2, hRO3⟩ hLk) (cwV 1 hts gq_X9_turn rfl rfl rfl (by decide +kernel) ⟨Nat.le_of_ble_eq_true rfl, Nat.le_of_ble_eq_true rfl⟩) hK hN hP hD hS hA rfl rfl rfl hl.1 rfl (Nat.le_of_ble_eq_true rfl) dL_law_567 ⟨(show 39 + 17 * k + 7 ≤ 600000 by omega), (show 18292 + 85786 * k + 34315 ≤ 7302249 by omega)⟩ (fun r_1 u H locs hw hP hD hS => ?_)
  obtain ⟨w_2, w_3, w_4, w_5, w_6, LL_7, Y_8, ⟨hi_9, hs_10, hL_11⟩, rfl⟩ := hw
  have hi_12 : chO Y_8 (O 7) := chO_mono hs_10 hM.2.1
  have hi_13 : ∀ i, i < 20 → pasO Y_8 ((RO 2) i) := pas_mono hs_10 hM.2.2.2.1
  have hmono_14 : ∀ c, c ∈ Y → c ∈ Y_8 := fun c h => hs_10 c ((fun _ h => h) c h)
  have hP : va_P D vwCl (MW cy am Jm Im Rm RJm ++ CT cy ax (va_up (va_up J 224 w_2) 225 w_3) (va_up I 10 w_4) (va_up (va_up O 5 w_5) 8 w_6) R RO (LL_7 ++ Y_8)) H := hP
  have hD : va_D (fun q : Nat => s.heap.size ≤ q) (MW cy am Jm Im Rm RJm ++ CT cy ax (va_up (va_up J 224 w_2) 225 w_3) (va_up I 10 w_4) (va_up (va_up O 5 w_5) 8 w_6) R RO (LL_7 ++ Y_8)) := hD
  refine lv_pop hx hb dL_law_570 rfl ?_
  refine lv_aload_n hx hb dL_law_571 rfl (lv_at hl 2 rfl) ?_
  refine lv_aload_n hx hb dL_law_572 rfl (lv_at hl 0 rfl) ?_
  refine lv_iload_n hx hb dL_law_573 rfl (lv_at hl 3 rfl) ?_
  refine lv_iconst (v := 1) hx hb dL_law_574 (by decide) ?_
  refine lv_iadd hx hb dL_law_575 ?_
  refine wtop_i (y := nI (6 * k + 1)) (by rw [← nI_add]; rfl) ?_
  refine va_sld hx hb hX hbl hbA hS (vp_in_nI (show 6 * k + 1 < L by omega) (by omega)) dL_law_576 ?_
  refine wtop_i (y := xs (6 * k + 1)) (by rw [nI_clamp (show 6 * k + 1 < 2 ^ 31 by omega)]) ?_
  refine kV_i (As := [.int (xs (6 * k + 1))]) (rest := []) (q0 := 0) ⟨hx, hb, hml, hown, hts⟩ (t_X10_turn l D cy am _ Jm Im Rm RJm (xs (6 * k + 1))  ⟨hMm.1, hMm.2.1, hMm.2.2.1, hMm.2.2.2.1, hMm.2.2.2.2.1, hMm.2.2.2.2.2⟩) (cwV 1 hts gq_X10_turn rfl rfl rfl (by decide +kernel) ⟨Nat.le_of_ble_eq_true rfl, Nat.le_of_ble_eq_true rfl⟩) hK hN hP hD hS hA rfl rfl rfl hl.1 rfl (Nat.le_of_ble_eq_true rfl) dL_law_577 ⟨(show 39 + 17 * k + 7 + 0 ≤ 600000 by omega), (show 18292 + 85786 * k + 34315 + 0 ≤ 7302249 by omega)⟩ (fun r_15 u H locs hw hP hD hS => ?_)
  obtain ⟨w_16, w_17, w_18, w_19, w_20, w_21, w_22, -, rfl⟩ := hw
  have hP : va_P D vwCl (MW cy am (va_up (va_up (va_up (va_up (va_up Jm 4 w_16) 5 w_17) 19 w_18) 20 w_19) 21 w_20) (va_up Im 13 w_21) (va_up Rm 12 w_22) RJm ++ CT cy ax (va_up (va_up J 224 w_2) 225 w_3) (va_up I 10 w_4) (va_up (va_up O 5 w_5) 8 w_6) R RO (LL_7 ++ Y_8)) H := hP
  have hD : va_D (fun q : Nat => s.heap.size ≤ q) (MW cy am (va_up (va_up (va_up (va_up (va_up Jm 4 w_16) 5 w_17) 19 w_18) 20 w_19) 21 w_20) (va_up Im 13 w_21) (va_up Rm 12 w_22) RJm ++ CT cy ax (va_up (va_up J 224 w_2) 225 w_3) (va_up I 10 w_4) (va_up (va_up O 5 w_5) 8 w_6) R RO (LL_7 ++ Y_8)) := hD
  refine lv_pop hx hb dL_law_580 rfl ?_
  refine lv_goto (tgt := 1035) hx hb dL_law_581 (by decide) ?_
  refine W.widen (k := 39 + 17 * (k + 1)) (n := 18292 + 85786 * (k + 1)) (show 39 + 17 * k + 7 + 0 ≤ _ by omega) (show 18292 + 85786 * k + 34315 + 0 ≤ _ by omega) ?_
  exact kk (va_up (va_up (va_up (va_up (va_up Jm 4 w_16) 5 w_17) 19 w_18) 20 w_19) 21 w_20) (va_up Im 13 w_21) (va_up Rm 12 w_22) RJm (va_up (va_up J 224 w_2) 225 w_3) (va_up I 10 w_4) (va_up (va_up O 5 w_5) 8 w_6) R RO LL_7 Y_8 _ _ _ _ _ _ ⟨hMm.1, hMm.2.1, hMm.2.2.1, hMm.2.2.2.1, hMm.2.2.2.2.1, hMm.2.2.2.2.2⟩ ⟨hM.1, hi_12, hi_9, hi_13, hM.2.2.2.2.1, hM.2.2.2.2.2.1, hM.2.2.2.2.2.2.1, hM.2.2.2.2.2.2.2.1, hRO0, hRO1, hRO2, hRO3⟩ hL_11 hQ6 hQ hF hAm hSm (RCf_mono hmono_14 hAc) hSc hG _ _ hP hD hS ls (lv_sub hl [0, 1, 2, 3] rfl)
theorem dL_law_584 : decode cL_law 584 = .ok (.aload_n 1, 1) := by decide +kernel
theorem dL_law_585 : decode cL_law 585 = .ok (.aload_n 0, 1) := by decide +kernel
theorem dL_law_586 : decode cL_law 586 = .ok (.iload_n 3, 1) := by decide +kernel
theorem dL_law_587 : decode cL_law 587 = .ok (.iconst 1, 1) := by decide +kernel
theorem dL_law_588 : decode cL_law 588 = .ok (.iadd, 1) := by decide +kernel
theorem dL_law_589 : decode cL_law 589 = .ok (.iaload, 1) := by decide +kernel
theorem dL_law_590 : decode cL_law 590 = .ok (.aload_n 0, 1) := by decide +kernel
theorem dL_law_591 : decode cL_law 591 = .ok (.iload_n 3, 1) := by decide +kernel
theorem dL_law_592 : decode cL_law 592 = .ok (.iconst 2, 1) := by decide +kernel
theorem dL_law_593 : decode cL_law 593 = .ok (.iadd, 1) := by decide +kernel
theorem dL_law_594 : decode cL_law 594 = .ok (.iaload, 1) := by decide +kernel
theorem dL_law_595 : decode cL_law 595 = .ok (.invokevirtual 82, 3) := by decide +kernel
theorem dL_law_598 : decode cL_law 598 = .ok (.pop, 1) := by decide +kernel
theorem dL_law_599 : decode cL_law 599 = .ok (.aload_n 2, 1) := by decide +kernel
theorem dL_law_600 : decode cL_law 600 = .ok (.aload_n 0, 1) := by decide +kernel
theorem dL_law_601 : decode cL_law 601 = .ok (.iload_n 3, 1) := by decide +kernel
theorem dL_law_602 : decode cL_law 602 = .ok (.iconst 1, 1) := by decide +kernel
theorem dL_law_603 : decode cL_law 603 = .ok (.iadd, 1) := by decide +kernel
theorem dL_law_604 : decode cL_law 604 = .ok (.iaload, 1) := by decide +kernel
theorem dL_law_605 : decode cL_law 605 = .ok (.aload_n 0, 1) := by decide +kernel
theorem dL_law_606 : decode cL_law 606 = .ok (.iload_n 3, 1) := by decide +kernel
theorem dL_law_607 : decode cL_law 607 = .ok (.iconst 2, 1) := by decide +kernel
theorem dL_law_608 : decode cL_law 608 = .ok (.iadd, 1) := by decide +kernel
theorem dL_law_609 : decode cL_law 609 = .ok (.iaload, 1) := by decide +kernel
theorem dL_law_610 : decode cL_law 610 = .ok (.invokevirtual 85, 3) := by decide +kernel
theorem dL_law_613 : decode cL_law 613 = .ok (.pop, 1) := by decide +kernel
theorem dL_law_614 : decode cL_law 614 = .ok (.goto 421, 3) := by decide +kernel
set_option maxHeartbeats 4000000 in
set_option maxRecDepth 100000 in
theorem law_16 {p : Program} {e : Env} {s : State} {m : MethodId} {below : List Frame} {meth : Method} {c : Code} (l : Launch) {b L : Nat} {xs : Nat → Int32} {D : va_G} {cy : Nat → ClassId} (C0 : lawCtx p s m meth c b L xs D cy) (ax am : Nat → Nat) (k : Nat) (hk : 6 * k + 6 ≤ L) (hL384 : L ≤ 384) (Jm : Nat → Int64) (Im : Nat → Int32) (Rm : Nat → Nat → Int32) (RJm : Nat → Nat → Int64) (J : Nat → Int64) (I : Nat → Int32) (O : Nat → Option Nat) (R : Nat → Nat → Int32) (RO : Nat → Nat → Option Nat) (LL Y : va_W) (fl : Int64) (S : List Int32) (P : List PE) (Bs Zs : Nat → Int32) (Vs : Nat → Nat → Int32) (hMm : MI Im Rm) (hM : CI ax Y I O RO) (hLk : LOK cy (O 5) LL) (hQ6 : ∀ i, i < 81 → vp_in (R 6 i) 81) (hQ : Q64 (R 11)) (hF : Q64 (R 10)) (hAm : RMf (Jm 0) (Im 1) (Im 12) (Rm 1) (Rm 3) (Rm 4) (RJm 2) fl S P) (hSm : RMs (Rm 8) (Rm 9) (Rm 10) Bs Zs Vs) (hAc : RCf Y (J 6) (O 7) (I 9) (RO 2) fl S P) (hSc : RCs (I 385) (I 386) (R 13) (I 449) (I 450) (R 15) (I 513) (I 514) (R 17) (I 577) (I 578) (R 19) Bs Zs Vs) (hG : gAll fl S P) (kk : LK p l e s m below meth c b D cy ax am k (39 + 17 * (k + 1)) (18292 + 85786 * (k + 1)) 1035) (H : Heap) (locs : List Loc) (hP : va_P D vwCl (MW cy am Jm Im Rm RJm ++ CT cy ax J I O R RO (LL ++ Y)) H) (hD : va_D (fun q : Nat => s.heap.size ≤ q) (MW cy am Jm Im Rm RJm ++ CT cy ax J I O R RO (LL ++ Y))) (hS : va_S (fun q : Nat => s.heap.size ≤ q) s.heap H locs) (ls : Array Slot) (hl : lv_has ls 4 [(0, .ref b), (1, .ref (ax 0)), (2, .ref (am 0)), (3, .int (nI (6 * k)))]) : W p l e room_1 s m #[Value.ref b] below meth c H locs (39 + 17 * k) (18292 + 85786 * k) (lw_Z below #[Value.ref b] s) (F0 m 584 ls []) := by
  obtain ⟨⟨hx, hb, hr, hml, hown, hts, hX, hbl, hlocks, hgv⟩, hK, hN⟩ := C0
  have hown : s.vm.findClass RL = some m.cls := hown
  have hA : ∀ q : Nat, s.heap.size ≤ q → (fun q : Nat => s.heap.size ≤ q) q := fun _ h => h
  have hbA : ¬ (fun q : Nat => s.heap.size ≤ q) b := Nat.not_le.mpr hbl
  have hRO0 := hM.2.2.2.2.2.2.2.2.1
  have hRO1 := hM.2.2.2.2.2.2.2.2.2.1
  have hRO2 := hM.2.2.2.2.2.2.2.2.2.2.1
  have hRO3 := hM.2.2.2.2.2.2.2.2.2.2.2
  refine lv_aload_n hx hb dL_law_584 rfl (lv_at hl 1 rfl) ?_
  refine lv_aload_n hx hb dL_law_585 rfl (lv_at hl 0 rfl) ?_
  refine lv_iload_n hx hb dL_law_586 rfl (lv_at hl 3 rfl) ?_
  refine lv_iconst (v := 1) hx hb dL_law_587 (by decide) ?_
  refine lv_iadd hx hb dL_law_588 ?_
  refine wtop_i (y := nI (6 * k + 1)) (by rw [← nI_add]; rfl) ?_
  refine va_sld hx hb hX hbl hbA hS (vp_in_nI (show 6 * k + 1 < L by omega) (by omega)) dL_law_589 ?_
  refine wtop_i (y := xs (6 * k + 1)) (by rw [nI_clamp (show 6 * k + 1 < 2 ^ 31 by omega)]) ?_
  refine lv_aload_n hx hb dL_law_590 rfl (lv_at hl 0 rfl) ?_
  refine lv_iload_n hx hb dL_law_591 rfl (lv_at hl 3 rfl) ?_
  refine lv_iconst (v := 2) hx hb dL_law_592 (by decide) ?_
  refine lv_iadd hx hb dL_law_593 ?_
  refine wtop_i (y := nI (6 * k + 2)) (by rw [← nI_add]; rfl) ?_
  refine va_sld hx hb hX hbl hbA hS (vp_in_nI (show 6 * k + 2 < L by omega) (by omega)) dL_law_594 ?_
  refine wtop_i (y := xs (6 * k + 2)) (by rw [nI_clamp (show 6 * k + 2 < 2 ^ 31 by omega)]) ?_
  refine kX_i (As := [.int (xs (6 * k + 1)), .int (xs (6 * k + 2))]) (rest := []) (q0 := 0) ⟨hx, hb, hml, hown, hts⟩ (t_X9_height l D cy ax _ J I O R RO LL Y (xs (6 * k + 1)) (xs (6 * k + 2)) hQ6 ⟨hM.1, hM.2.1, hM.2.2.1, hM.2.2.2.1, hM.2.2.2.2.1, hM.2.2.2.2.2.1, hM.2.2.2.2.2.2.1, hM.2.2.2.2.2.2.2.1, hRO0, hRO1, hRO2, hRO3⟩ ) (cwV 2 hts gq_X9_height rfl rfl rfl (by decide +kernel) ⟨Nat.le_of_ble_eq_true rfl, Nat.le_of_ble_eq_true rfl⟩) hK hN hP hD hS hA rfl rfl rfl hl.1 rfl (Nat.le_of_ble_eq_true rfl) dL_law_595 ⟨(show 39 + 17 * k + 0 ≤ 600000 by omega), (show 18292 + 85786 * k + 0 ≤ 7302249 by omega)⟩ (fun r_1 u H locs hw hP hD hS => ?_)
  obtain ⟨w_2, w_3, w_4, w_5, w_6, w_7, ⟨hi_8, hp_9⟩, rfl⟩ := hw
  have hP : va_P D vwCl (MW cy am Jm Im Rm RJm ++ CT cy ax J (va_up (va_up I 10 w_2) 99 w_3) (va_up (va_up O 8 w_4) 100 w_5) (va_up (va_up R 4 w_6) 6 w_7) RO (LL ++ Y)) H := hP
  have hD : va_D (fun q : Nat => s.heap.size ≤ q) (MW cy am Jm Im Rm RJm ++ CT cy ax J (va_up (va_up I 10 w_2) 99 w_3) (va_up (va_up O 8 w_4) 100 w_5) (va_up (va_up R 4 w_6) 6 w_7) RO (LL ++ Y)) := hD
  refine lv_pop hx hb dL_law_598 rfl ?_
  refine lv_aload_n hx hb dL_law_599 rfl (lv_at hl 2 rfl) ?_
  refine lv_aload_n hx hb dL_law_600 rfl (lv_at hl 0 rfl) ?_
  refine lv_iload_n hx hb dL_law_601 rfl (lv_at hl 3 rfl) ?_
  refine lv_iconst (v := 1) hx hb dL_law_602 (by decide) ?_
  refine lv_iadd hx hb dL_law_603 ?_
  refine wtop_i (y := nI (6 * k + 1)) (by rw [← nI_add]; rfl) ?_
  refine va_sld hx hb hX hbl hbA hS (vp_in_nI (show 6 * k + 1 < L by omega) (by omega)) dL_law_604 ?_
  refine wtop_i (y := xs (6 * k + 1)) (by rw [nI_clamp (show 6 * k + 1 < 2 ^ 31 by omega)]) ?_
  refine lv_aload_n hx hb dL_law_605 rfl (lv_at hl 0 rfl) ?_
  refine lv_iload_n hx hb dL_law_606 rfl (lv_at hl 3 rfl) ?_
  refine lv_iconst (v := 2) hx hb dL_law_607 (by decide) ?_
  refine lv_iadd hx hb dL_law_608 ?_
  refine wtop_i (y := nI (6 * k + 2)) (by rw [← nI_add]; rfl) ?_
  refine va_sld hx hb hX hbl hbA hS (vp_in_nI (show 6 * k + 2 < L by omega) (by omega)) dL_law_609 ?_
  refine wtop_i (y := xs (6 * k + 2)) (by rw [nI_clamp (show 6 * k + 2 < 2 ^ 31 by omega)]) ?_
  refine kV_i (As := [.int (xs (6 * k + 1)), .int (xs (6 * k + 2))]) (rest := []) (q0 := 0) ⟨hx, hb, hml, hown, hts⟩ (t_X10_height l D cy am _ Jm Im Rm RJm (xs (6 * k + 1)) (xs (6 * k + 2))  ⟨hMm.1, hMm.2.1, hMm.2.2.1, hMm.2.2.2.1, hMm.2.2.2.2.1, hMm.2.2.2.2.2⟩) (cwV 2 hts gq_X10_height rfl rfl rfl (by decide +kernel) ⟨Nat.le_of_ble_eq_true rfl, Nat.le_of_ble_eq_true rfl⟩) hK hN hP hD hS hA rfl rfl rfl hl.1 rfl (Nat.le_of_ble_eq_true rfl) dL_law_610 ⟨(show 39 + 17 * k + 0 + 0 ≤ 600000 by omega), (show 18292 + 85786 * k + 0 + 0 ≤ 7302249 by omega)⟩ (fun r_10 u H locs hw hP hD hS => ?_)
  obtain ⟨w_11, w_12, w_13, -, rfl⟩ := hw
  have hP : va_P D vwCl (MW cy am Jm (va_up Im 13 w_11) (va_up (va_up Rm 11 w_12) 13 w_13) RJm ++ CT cy ax J (va_up (va_up I 10 w_2) 99 w_3) (va_up (va_up O 8 w_4) 100 w_5) (va_up (va_up R 4 w_6) 6 w_7) RO (LL ++ Y)) H := hP
  have hD : va_D (fun q : Nat => s.heap.size ≤ q) (MW cy am Jm (va_up Im 13 w_11) (va_up (va_up Rm 11 w_12) 13 w_13) RJm ++ CT cy ax J (va_up (va_up I 10 w_2) 99 w_3) (va_up (va_up O 8 w_4) 100 w_5) (va_up (va_up R 4 w_6) 6 w_7) RO (LL ++ Y)) := hD
  refine lv_pop hx hb dL_law_613 rfl ?_
  refine lv_goto (tgt := 1035) hx hb dL_law_614 (by decide) ?_
  refine W.widen (k := 39 + 17 * (k + 1)) (n := 18292 + 85786 * (k + 1)) (show 39 + 17 * k + 0 + 0 ≤ _ by omega) (show 18292 + 85786 * k + 0 + 0 ≤ _ by omega) ?_
  exact kk Jm (va_up Im 13 w_11) (va_up (va_up Rm 11 w_12) 13 w_13) RJm J (va_up (va_up I 10 w_2) 99 w_3) (va_up (va_up O 8 w_4) 100 w_5) (va_up (va_up R 4 w_6) 6 w_7) RO LL Y _ _ _ _ _ _ ⟨hMm.1, hMm.2.1, hMm.2.2.1, hMm.2.2.2.1, hMm.2.2.2.2.1, hMm.2.2.2.2.2⟩ ⟨hM.1, hM.2.1, hi_8, hM.2.2.2.1, hM.2.2.2.2.1, hM.2.2.2.2.2.1, hM.2.2.2.2.2.2.1, hM.2.2.2.2.2.2.2.1, hRO0, hRO1, hRO2, hRO3⟩ hLk hp_9 hQ hF hAm hSm hAc hSc hG _ _ hP hD hS ls (lv_sub hl [0, 1, 2, 3] rfl)
theorem dL_law_617 : decode cL_law 617 = .ok (.aload_n 1, 1) := by decide +kernel
theorem dL_law_618 : decode cL_law 618 = .ok (.aload_n 0, 1) := by decide +kernel
theorem dL_law_619 : decode cL_law 619 = .ok (.iload_n 3, 1) := by decide +kernel
theorem dL_law_620 : decode cL_law 620 = .ok (.iconst 1, 1) := by decide +kernel
theorem dL_law_621 : decode cL_law 621 = .ok (.iadd, 1) := by decide +kernel
theorem dL_law_622 : decode cL_law 622 = .ok (.iaload, 1) := by decide +kernel
theorem dL_law_623 : decode cL_law 623 = .ok (.ifCond .eq 7, 3) := by decide +kernel
theorem dL_law_630 : decode cL_law 630 = .ok (.iconst 0, 1) := by decide +kernel
theorem dL_law_631 : decode cL_law 631 = .ok (.invokevirtual 86, 3) := by decide +kernel
theorem dL_law_634 : decode cL_law 634 = .ok (.pop, 1) := by decide +kernel
theorem dL_law_635 : decode cL_law 635 = .ok (.aload_n 2, 1) := by decide +kernel
theorem dL_law_636 : decode cL_law 636 = .ok (.aload_n 0, 1) := by decide +kernel
theorem dL_law_637 : decode cL_law 637 = .ok (.iload_n 3, 1) := by decide +kernel
theorem dL_law_638 : decode cL_law 638 = .ok (.iconst 1, 1) := by decide +kernel
theorem dL_law_639 : decode cL_law 639 = .ok (.iadd, 1) := by decide +kernel
theorem dL_law_640 : decode cL_law 640 = .ok (.iaload, 1) := by decide +kernel
theorem dL_law_641 : decode cL_law 641 = .ok (.ifCond .eq 7, 3) := by decide +kernel
theorem dL_law_648 : decode cL_law 648 = .ok (.iconst 0, 1) := by decide +kernel
theorem dL_law_649 : decode cL_law 649 = .ok (.invokevirtual 90, 3) := by decide +kernel
theorem dL_law_652 : decode cL_law 652 = .ok (.pop, 1) := by decide +kernel
theorem dL_law_653 : decode cL_law 653 = .ok (.goto 382, 3) := by decide +kernel
theorem dL_law_626 : decode cL_law 626 = .ok (.iconst 1, 1) := by decide +kernel
theorem dL_law_627 : decode cL_law 627 = .ok (.goto 4, 3) := by decide +kernel
theorem dL_law_644 : decode cL_law 644 = .ok (.iconst 1, 1) := by decide +kernel
theorem dL_law_645 : decode cL_law 645 = .ok (.goto 4, 3) := by decide +kernel
set_option maxHeartbeats 4000000 in
set_option maxRecDepth 100000 in
theorem law_17 {p : Program} {e : Env} {s : State} {m : MethodId} {below : List Frame} {meth : Method} {c : Code} (l : Launch) {b L : Nat} {xs : Nat → Int32} {D : va_G} {cy : Nat → ClassId} (C0 : lawCtx p s m meth c b L xs D cy) (ax am : Nat → Nat) (k : Nat) (hk : 6 * k + 6 ≤ L) (hL384 : L ≤ 384) (Jm : Nat → Int64) (Im : Nat → Int32) (Rm : Nat → Nat → Int32) (RJm : Nat → Nat → Int64) (J : Nat → Int64) (I : Nat → Int32) (O : Nat → Option Nat) (R : Nat → Nat → Int32) (RO : Nat → Nat → Option Nat) (LL Y : va_W) (fl : Int64) (S : List Int32) (P : List PE) (Bs Zs : Nat → Int32) (Vs : Nat → Nat → Int32) (hMm : MI Im Rm) (hM : CI ax Y I O RO) (hLk : LOK cy (O 5) LL) (hQ6 : ∀ i, i < 81 → vp_in (R 6 i) 81) (hQ : Q64 (R 11)) (hF : Q64 (R 10)) (hAm : RMf (Jm 0) (Im 1) (Im 12) (Rm 1) (Rm 3) (Rm 4) (RJm 2) fl S P) (hSm : RMs (Rm 8) (Rm 9) (Rm 10) Bs Zs Vs) (hAc : RCf Y (J 6) (O 7) (I 9) (RO 2) fl S P) (hSc : RCs (I 385) (I 386) (R 13) (I 449) (I 450) (R 15) (I 513) (I 514) (R 17) (I 577) (I 578) (R 19) Bs Zs Vs) (hG : gAll fl S P) (kk : LK p l e s m below meth c b D cy ax am k (39 + 17 * (k + 1)) (18292 + 85786 * (k + 1)) 1035) (H : Heap) (locs : List Loc) (hP : va_P D vwCl (MW cy am Jm Im Rm RJm ++ CT cy ax J I O R RO (LL ++ Y)) H) (hD : va_D (fun q : Nat => s.heap.size ≤ q) (MW cy am Jm Im Rm RJm ++ CT cy ax J I O R RO (LL ++ Y))) (hS : va_S (fun q : Nat => s.heap.size ≤ q) s.heap H locs) (ls : Array Slot) (hl : lv_has ls 4 [(0, .ref b), (1, .ref (ax 0)), (2, .ref (am 0)), (3, .int (nI (6 * k)))]) : W p l e room_1 s m #[Value.ref b] below meth c H locs (39 + 17 * k) (18292 + 85786 * k) (lw_Z below #[Value.ref b] s) (F0 m 617 ls []) := by
  obtain ⟨⟨hx, hb, hr, hml, hown, hts, hX, hbl, hlocks, hgv⟩, hK, hN⟩ := C0
  have hown : s.vm.findClass RL = some m.cls := hown
  have hA : ∀ q : Nat, s.heap.size ≤ q → (fun q : Nat => s.heap.size ≤ q) q := fun _ h => h
  have hbA : ¬ (fun q : Nat => s.heap.size ≤ q) b := Nat.not_le.mpr hbl
  have hRO0 := hM.2.2.2.2.2.2.2.2.1
  have hRO1 := hM.2.2.2.2.2.2.2.2.2.1
  have hRO2 := hM.2.2.2.2.2.2.2.2.2.2.1
  have hRO3 := hM.2.2.2.2.2.2.2.2.2.2.2
  refine lv_aload_n hx hb dL_law_617 rfl (lv_at hl 1 rfl) ?_
  refine lv_aload_n hx hb dL_law_618 rfl (lv_at hl 0 rfl) ?_
  refine lv_iload_n hx hb dL_law_619 rfl (lv_at hl 3 rfl) ?_
  refine lv_iconst (v := 1) hx hb dL_law_620 (by decide) ?_
  refine lv_iadd hx hb dL_law_621 ?_
  refine wtop_i (y := nI (6 * k + 1)) (by rw [← nI_add]; rfl) ?_
  refine va_sld hx hb hX hbl hbA hS (vp_in_nI (show 6 * k + 1 < L by omega) (by omega)) dL_law_622 ?_
  refine wtop_i (y := xs (6 * k + 1)) (by rw [nI_clamp (show 6 * k + 1 < 2 ^ 31 by omega)]) ?_
  refine lv_if_eq (tgt := 630) hx hb dL_law_623 (by decide) (fun c_1 => ?_) (fun c_1 => ?_)
  · refine lv_iconst (v := 0) hx hb dL_law_630 (by decide) ?_
    refine kX_i (As := [.int 0]) (rest := []) (q0 := 0) ⟨hx, hb, hml, hown, hts⟩ (t_X9_extreme l D cy ax _ J I O R RO LL Y false  ⟨hM.1, hM.2.1, hM.2.2.1, hM.2.2.2.1, hM.2.2.2.2.1, hM.2.2.2.2.2.1, hM.2.2.2.2.2.2.1, hM.2.2.2.2.2.2.2.1, hRO0, hRO1, hRO2, hRO3⟩ hLk) (cwV 1 hts gq_X9_extreme rfl rfl rfl (by decide +kernel) ⟨Nat.le_of_ble_eq_true rfl, Nat.le_of_ble_eq_true rfl⟩) hK hN hP hD hS hA rfl rfl rfl hl.1 rfl (Nat.le_of_ble_eq_true rfl) dL_law_631 ⟨(show 39 + 17 * k + 10 ≤ 600000 by omega), (show 18292 + 85786 * k + 51471 ≤ 7302249 by omega)⟩ (fun r_2 u H locs hw hP hD hS => ?_)
    obtain ⟨w_3, w_4, w_5, w_6, LL_7, Y_8, ⟨hs_9, hL_10⟩, rfl⟩ := hw
    have hi_11 : chO Y_8 (O 7) := chO_mono hs_9 hM.2.1
    have hi_12 : layO Y_8 (O 8) := layO_mono hs_9 hM.2.2.1
    have hi_13 : ∀ i, i < 20 → pasO Y_8 ((RO 2) i) := pas_mono hs_9 hM.2.2.2.1
    have hmono_14 : ∀ c, c ∈ Y → c ∈ Y_8 := fun c h => hs_9 c ((fun _ h => h) c h)
    have hP : va_P D vwCl (MW cy am Jm Im Rm RJm ++ CT cy ax (va_up (va_up J 224 w_3) 225 w_4) (va_up I 10 w_5) (va_up O 5 w_6) R RO (LL_7 ++ Y_8)) H := hP
    have hD : va_D (fun q : Nat => s.heap.size ≤ q) (MW cy am Jm Im Rm RJm ++ CT cy ax (va_up (va_up J 224 w_3) 225 w_4) (va_up I 10 w_5) (va_up O 5 w_6) R RO (LL_7 ++ Y_8)) := hD
    refine lv_pop hx hb dL_law_634 rfl ?_
    refine lv_aload_n hx hb dL_law_635 rfl (lv_at hl 2 rfl) ?_
    refine lv_aload_n hx hb dL_law_636 rfl (lv_at hl 0 rfl) ?_
    refine lv_iload_n hx hb dL_law_637 rfl (lv_at hl 3 rfl) ?_
    refine lv_iconst (v := 1) hx hb dL_law_638 (by decide) ?_
    refine lv_iadd hx hb dL_law_639 ?_
    refine wtop_i (y := nI (6 * k + 1)) (by rw [← nI_add]; rfl) ?_
    refine va_sld hx hb hX hbl hbA hS (vp_in_nI (show 6 * k + 1 < L by omega) (by omega)) dL_law_640 ?_
    refine wtop_i (y := xs (6 * k + 1)) (by rw [nI_clamp (show 6 * k + 1 < 2 ^ 31 by omega)]) ?_
    refine lv_if_eq (tgt := 648) hx hb dL_law_641 (by decide) (fun c_15 => ?_) (fun c_15 => absurd c_1 c_15)
    refine lv_iconst (v := 0) hx hb dL_law_648 (by decide) ?_
    refine kV_i (As := [.int 0]) (rest := []) (q0 := 0) ⟨hx, hb, hml, hown, hts⟩ (t_X10_extreme l D cy am _ Jm Im Rm RJm false  ⟨hMm.1, hMm.2.1, hMm.2.2.1, hMm.2.2.2.1, hMm.2.2.2.2.1, hMm.2.2.2.2.2⟩) (cwV 1 hts gq_X10_extreme rfl rfl rfl (by decide +kernel) ⟨Nat.le_of_ble_eq_true rfl, Nat.le_of_ble_eq_true rfl⟩) hK hN hP hD hS hA rfl rfl rfl hl.1 rfl (Nat.le_of_ble_eq_true rfl) dL_law_649 ⟨(show 39 + 17 * k + 10 + 0 ≤ 600000 by omega), (show 18292 + 85786 * k + 51471 + 0 ≤ 7302249 by omega)⟩ (fun r_16 u H locs hw hP hD hS => ?_)
    obtain ⟨w_17, w_18, w_19, w_20, w_21, w_22, w_23, w_24, -, rfl⟩ := hw
    have hP : va_P D vwCl (MW cy am (va_up (va_up (va_up (va_up (va_up Jm 19 w_17) 20 w_18) 21 w_19) 22 w_20) 23 w_21) (va_up Im 13 w_22) (va_up (va_up Rm 11 w_23) 12 w_24) RJm ++ CT cy ax (va_up (va_up J 224 w_3) 225 w_4) (va_up I 10 w_5) (va_up O 5 w_6) R RO (LL_7 ++ Y_8)) H := hP
    have hD : va_D (fun q : Nat => s.heap.size ≤ q) (MW cy am (va_up (va_up (va_up (va_up (va_up Jm 19 w_17) 20 w_18) 21 w_19) 22 w_20) 23 w_21) (va_up Im 13 w_22) (va_up (va_up Rm 11 w_23) 12 w_24) RJm ++ CT cy ax (va_up (va_up J 224 w_3) 225 w_4) (va_up I 10 w_5) (va_up O 5 w_6) R RO (LL_7 ++ Y_8)) := hD
    refine lv_pop hx hb dL_law_652 rfl ?_
    refine lv_goto (tgt := 1035) hx hb dL_law_653 (by decide) ?_
    refine W.widen (k := 39 + 17 * (k + 1)) (n := 18292 + 85786 * (k + 1)) (show 39 + 17 * k + 10 + 0 ≤ _ by omega) (show 18292 + 85786 * k + 51471 + 0 ≤ _ by omega) ?_
    exact kk (va_up (va_up (va_up (va_up (va_up Jm 19 w_17) 20 w_18) 21 w_19) 22 w_20) 23 w_21) (va_up Im 13 w_22) (va_up (va_up Rm 11 w_23) 12 w_24) RJm (va_up (va_up J 224 w_3) 225 w_4) (va_up I 10 w_5) (va_up O 5 w_6) R RO LL_7 Y_8 _ _ _ _ _ _ ⟨hMm.1, hMm.2.1, hMm.2.2.1, hMm.2.2.2.1, hMm.2.2.2.2.1, hMm.2.2.2.2.2⟩ ⟨hM.1, hi_11, hi_12, hi_13, hM.2.2.2.2.1, hM.2.2.2.2.2.1, hM.2.2.2.2.2.2.1, hM.2.2.2.2.2.2.2.1, hRO0, hRO1, hRO2, hRO3⟩ hL_10 hQ6 hQ hF hAm hSm (RCf_mono hmono_14 hAc) hSc hG _ _ hP hD hS ls (lv_sub hl [0, 1, 2, 3] rfl)
  · refine lv_iconst (v := 1) hx hb dL_law_626 (by decide) ?_
    refine lv_goto (tgt := 631) hx hb dL_law_627 (by decide) ?_
    refine kX_i (As := [.int 1]) (rest := []) (q0 := 0) ⟨hx, hb, hml, hown, hts⟩ (t_X9_extreme l D cy ax _ J I O R RO LL Y true  ⟨hM.1, hM.2.1, hM.2.2.1, hM.2.2.2.1, hM.2.2.2.2.1, hM.2.2.2.2.2.1, hM.2.2.2.2.2.2.1, hM.2.2.2.2.2.2.2.1, hRO0, hRO1, hRO2, hRO3⟩ hLk) (cwV 1 hts gq_X9_extreme rfl rfl rfl (by decide +kernel) ⟨Nat.le_of_ble_eq_true rfl, Nat.le_of_ble_eq_true rfl⟩) hK hN hP hD hS hA rfl rfl rfl hl.1 rfl (Nat.le_of_ble_eq_true rfl) dL_law_631 ⟨(show 39 + 17 * k + 10 ≤ 600000 by omega), (show 18292 + 85786 * k + 51471 ≤ 7302249 by omega)⟩ (fun r_25 u H locs hw hP hD hS => ?_)
    obtain ⟨w_26, w_27, w_28, w_29, LL_30, Y_31, ⟨hs_32, hL_33⟩, rfl⟩ := hw
    have hi_34 : chO Y_31 (O 7) := chO_mono hs_32 hM.2.1
    have hi_35 : layO Y_31 (O 8) := layO_mono hs_32 hM.2.2.1
    have hi_36 : ∀ i, i < 20 → pasO Y_31 ((RO 2) i) := pas_mono hs_32 hM.2.2.2.1
    have hmono_37 : ∀ c, c ∈ Y → c ∈ Y_31 := fun c h => hs_32 c ((fun _ h => h) c h)
    have hP : va_P D vwCl (MW cy am Jm Im Rm RJm ++ CT cy ax (va_up (va_up J 224 w_26) 225 w_27) (va_up I 10 w_28) (va_up O 5 w_29) R RO (LL_30 ++ Y_31)) H := hP
    have hD : va_D (fun q : Nat => s.heap.size ≤ q) (MW cy am Jm Im Rm RJm ++ CT cy ax (va_up (va_up J 224 w_26) 225 w_27) (va_up I 10 w_28) (va_up O 5 w_29) R RO (LL_30 ++ Y_31)) := hD
    refine lv_pop hx hb dL_law_634 rfl ?_
    refine lv_aload_n hx hb dL_law_635 rfl (lv_at hl 2 rfl) ?_
    refine lv_aload_n hx hb dL_law_636 rfl (lv_at hl 0 rfl) ?_
    refine lv_iload_n hx hb dL_law_637 rfl (lv_at hl 3 rfl) ?_
    refine lv_iconst (v := 1) hx hb dL_law_638 (by decide) ?_
    refine lv_iadd hx hb dL_law_639 ?_
    refine wtop_i (y := nI (6 * k + 1)) (by rw [← nI_add]; rfl) ?_
    refine va_sld hx hb hX hbl hbA hS (vp_in_nI (show 6 * k + 1 < L by omega) (by omega)) dL_law_640 ?_
    refine wtop_i (y := xs (6 * k + 1)) (by rw [nI_clamp (show 6 * k + 1 < 2 ^ 31 by omega)]) ?_
    refine lv_if_eq (tgt := 648) hx hb dL_law_641 (by decide) (fun c_38 => absurd c_38 c_1) (fun c_38 => ?_)
    refine lv_iconst (v := 1) hx hb dL_law_644 (by decide) ?_
    refine lv_goto (tgt := 649) hx hb dL_law_645 (by decide) ?_
    refine kV_i (As := [.int 1]) (rest := []) (q0 := 0) ⟨hx, hb, hml, hown, hts⟩ (t_X10_extreme l D cy am _ Jm Im Rm RJm true  ⟨hMm.1, hMm.2.1, hMm.2.2.1, hMm.2.2.2.1, hMm.2.2.2.2.1, hMm.2.2.2.2.2⟩) (cwV 1 hts gq_X10_extreme rfl rfl rfl (by decide +kernel) ⟨Nat.le_of_ble_eq_true rfl, Nat.le_of_ble_eq_true rfl⟩) hK hN hP hD hS hA rfl rfl rfl hl.1 rfl (Nat.le_of_ble_eq_true rfl) dL_law_649 ⟨(show 39 + 17 * k + 10 + 0 ≤ 600000 by omega), (show 18292 + 85786 * k + 51471 + 0 ≤ 7302249 by omega)⟩ (fun r_39 u H locs hw hP hD hS => ?_)
    obtain ⟨w_40, w_41, w_42, w_43, w_44, w_45, w_46, w_47, -, rfl⟩ := hw
    have hP : va_P D vwCl (MW cy am (va_up (va_up (va_up (va_up (va_up Jm 19 w_40) 20 w_41) 21 w_42) 22 w_43) 23 w_44) (va_up Im 13 w_45) (va_up (va_up Rm 11 w_46) 12 w_47) RJm ++ CT cy ax (va_up (va_up J 224 w_26) 225 w_27) (va_up I 10 w_28) (va_up O 5 w_29) R RO (LL_30 ++ Y_31)) H := hP
    have hD : va_D (fun q : Nat => s.heap.size ≤ q) (MW cy am (va_up (va_up (va_up (va_up (va_up Jm 19 w_40) 20 w_41) 21 w_42) 22 w_43) 23 w_44) (va_up Im 13 w_45) (va_up (va_up Rm 11 w_46) 12 w_47) RJm ++ CT cy ax (va_up (va_up J 224 w_26) 225 w_27) (va_up I 10 w_28) (va_up O 5 w_29) R RO (LL_30 ++ Y_31)) := hD
    refine lv_pop hx hb dL_law_652 rfl ?_
    refine lv_goto (tgt := 1035) hx hb dL_law_653 (by decide) ?_
    refine W.widen (k := 39 + 17 * (k + 1)) (n := 18292 + 85786 * (k + 1)) (show 39 + 17 * k + 10 + 0 ≤ _ by omega) (show 18292 + 85786 * k + 51471 + 0 ≤ _ by omega) ?_
    exact kk (va_up (va_up (va_up (va_up (va_up Jm 19 w_40) 20 w_41) 21 w_42) 22 w_43) 23 w_44) (va_up Im 13 w_45) (va_up (va_up Rm 11 w_46) 12 w_47) RJm (va_up (va_up J 224 w_26) 225 w_27) (va_up I 10 w_28) (va_up O 5 w_29) R RO LL_30 Y_31 _ _ _ _ _ _ ⟨hMm.1, hMm.2.1, hMm.2.2.1, hMm.2.2.2.1, hMm.2.2.2.2.1, hMm.2.2.2.2.2⟩ ⟨hM.1, hi_34, hi_35, hi_36, hM.2.2.2.2.1, hM.2.2.2.2.2.1, hM.2.2.2.2.2.2.1, hM.2.2.2.2.2.2.2.1, hRO0, hRO1, hRO2, hRO3⟩ hL_33 hQ6 hQ hF hAm hSm (RCf_mono hmono_37 hAc) hSc hG _ _ hP hD hS ls (lv_sub hl [0, 1, 2, 3] rfl)
theorem dL_law_656 : decode cL_law 656 = .ok (.aload_n 1, 1) := by decide +kernel
theorem dL_law_657 : decode cL_law 657 = .ok (.aload_n 0, 1) := by decide +kernel
theorem dL_law_658 : decode cL_law 658 = .ok (.iload_n 3, 1) := by decide +kernel
theorem dL_law_659 : decode cL_law 659 = .ok (.iconst 1, 1) := by decide +kernel
theorem dL_law_660 : decode cL_law 660 = .ok (.iadd, 1) := by decide +kernel
theorem dL_law_661 : decode cL_law 661 = .ok (.iaload, 1) := by decide +kernel
theorem dL_law_662 : decode cL_law 662 = .ok (.aload_n 0, 1) := by decide +kernel
theorem dL_law_663 : decode cL_law 663 = .ok (.iload_n 3, 1) := by decide +kernel
theorem dL_law_664 : decode cL_law 664 = .ok (.iconst 2, 1) := by decide +kernel
theorem dL_law_665 : decode cL_law 665 = .ok (.iadd, 1) := by decide +kernel
theorem dL_law_666 : decode cL_law 666 = .ok (.iaload, 1) := by decide +kernel
theorem dL_law_667 : decode cL_law 667 = .ok (.invokevirtual 91, 3) := by decide +kernel
theorem dL_law_670 : decode cL_law 670 = .ok (.pop, 1) := by decide +kernel
theorem dL_law_671 : decode cL_law 671 = .ok (.aload_n 2, 1) := by decide +kernel
theorem dL_law_672 : decode cL_law 672 = .ok (.aload_n 0, 1) := by decide +kernel
theorem dL_law_673 : decode cL_law 673 = .ok (.iload_n 3, 1) := by decide +kernel
theorem dL_law_674 : decode cL_law 674 = .ok (.iconst 1, 1) := by decide +kernel
theorem dL_law_675 : decode cL_law 675 = .ok (.iadd, 1) := by decide +kernel
theorem dL_law_676 : decode cL_law 676 = .ok (.iaload, 1) := by decide +kernel
theorem dL_law_677 : decode cL_law 677 = .ok (.aload_n 0, 1) := by decide +kernel
theorem dL_law_678 : decode cL_law 678 = .ok (.iload_n 3, 1) := by decide +kernel
theorem dL_law_679 : decode cL_law 679 = .ok (.iconst 2, 1) := by decide +kernel
theorem dL_law_680 : decode cL_law 680 = .ok (.iadd, 1) := by decide +kernel
theorem dL_law_681 : decode cL_law 681 = .ok (.iaload, 1) := by decide +kernel
theorem dL_law_682 : decode cL_law 682 = .ok (.invokevirtual 94, 3) := by decide +kernel
theorem dL_law_685 : decode cL_law 685 = .ok (.pop, 1) := by decide +kernel
theorem dL_law_686 : decode cL_law 686 = .ok (.goto 349, 3) := by decide +kernel
set_option maxHeartbeats 4000000 in
set_option maxRecDepth 100000 in
theorem law_18 {p : Program} {e : Env} {s : State} {m : MethodId} {below : List Frame} {meth : Method} {c : Code} (l : Launch) {b L : Nat} {xs : Nat → Int32} {D : va_G} {cy : Nat → ClassId} (C0 : lawCtx p s m meth c b L xs D cy) (ax am : Nat → Nat) (k : Nat) (hk : 6 * k + 6 ≤ L) (hL384 : L ≤ 384) (Jm : Nat → Int64) (Im : Nat → Int32) (Rm : Nat → Nat → Int32) (RJm : Nat → Nat → Int64) (J : Nat → Int64) (I : Nat → Int32) (O : Nat → Option Nat) (R : Nat → Nat → Int32) (RO : Nat → Nat → Option Nat) (LL Y : va_W) (fl : Int64) (S : List Int32) (P : List PE) (Bs Zs : Nat → Int32) (Vs : Nat → Nat → Int32) (hMm : MI Im Rm) (hM : CI ax Y I O RO) (hLk : LOK cy (O 5) LL) (hQ6 : ∀ i, i < 81 → vp_in (R 6 i) 81) (hQ : Q64 (R 11)) (hF : Q64 (R 10)) (hAm : RMf (Jm 0) (Im 1) (Im 12) (Rm 1) (Rm 3) (Rm 4) (RJm 2) fl S P) (hSm : RMs (Rm 8) (Rm 9) (Rm 10) Bs Zs Vs) (hAc : RCf Y (J 6) (O 7) (I 9) (RO 2) fl S P) (hSc : RCs (I 385) (I 386) (R 13) (I 449) (I 450) (R 15) (I 513) (I 514) (R 17) (I 577) (I 578) (R 19) Bs Zs Vs) (hG : gAll fl S P) (kk : LK p l e s m below meth c b D cy ax am k (39 + 17 * (k + 1)) (18292 + 85786 * (k + 1)) 1035) (H : Heap) (locs : List Loc) (hP : va_P D vwCl (MW cy am Jm Im Rm RJm ++ CT cy ax J I O R RO (LL ++ Y)) H) (hD : va_D (fun q : Nat => s.heap.size ≤ q) (MW cy am Jm Im Rm RJm ++ CT cy ax J I O R RO (LL ++ Y))) (hS : va_S (fun q : Nat => s.heap.size ≤ q) s.heap H locs) (ls : Array Slot) (hl : lv_has ls 4 [(0, .ref b), (1, .ref (ax 0)), (2, .ref (am 0)), (3, .int (nI (6 * k)))]) : W p l e room_1 s m #[Value.ref b] below meth c H locs (39 + 17 * k) (18292 + 85786 * k) (lw_Z below #[Value.ref b] s) (F0 m 656 ls []) := by
  obtain ⟨⟨hx, hb, hr, hml, hown, hts, hX, hbl, hlocks, hgv⟩, hK, hN⟩ := C0
  have hown : s.vm.findClass RL = some m.cls := hown
  have hA : ∀ q : Nat, s.heap.size ≤ q → (fun q : Nat => s.heap.size ≤ q) q := fun _ h => h
  have hbA : ¬ (fun q : Nat => s.heap.size ≤ q) b := Nat.not_le.mpr hbl
  have hRO0 := hM.2.2.2.2.2.2.2.2.1
  have hRO1 := hM.2.2.2.2.2.2.2.2.2.1
  have hRO2 := hM.2.2.2.2.2.2.2.2.2.2.1
  have hRO3 := hM.2.2.2.2.2.2.2.2.2.2.2
  refine lv_aload_n hx hb dL_law_656 rfl (lv_at hl 1 rfl) ?_
  refine lv_aload_n hx hb dL_law_657 rfl (lv_at hl 0 rfl) ?_
  refine lv_iload_n hx hb dL_law_658 rfl (lv_at hl 3 rfl) ?_
  refine lv_iconst (v := 1) hx hb dL_law_659 (by decide) ?_
  refine lv_iadd hx hb dL_law_660 ?_
  refine wtop_i (y := nI (6 * k + 1)) (by rw [← nI_add]; rfl) ?_
  refine va_sld hx hb hX hbl hbA hS (vp_in_nI (show 6 * k + 1 < L by omega) (by omega)) dL_law_661 ?_
  refine wtop_i (y := xs (6 * k + 1)) (by rw [nI_clamp (show 6 * k + 1 < 2 ^ 31 by omega)]) ?_
  refine lv_aload_n hx hb dL_law_662 rfl (lv_at hl 0 rfl) ?_
  refine lv_iload_n hx hb dL_law_663 rfl (lv_at hl 3 rfl) ?_
  refine lv_iconst (v := 2) hx hb dL_law_664 (by decide) ?_
  refine lv_iadd hx hb dL_law_665 ?_
  refine wtop_i (y := nI (6 * k + 2)) (by rw [← nI_add]; rfl) ?_
  refine va_sld hx hb hX hbl hbA hS (vp_in_nI (show 6 * k + 2 < L by omega) (by omega)) dL_law_666 ?_
  refine wtop_i (y := xs (6 * k + 2)) (by rw [nI_clamp (show 6 * k + 2 < 2 ^ 31 by omega)]) ?_
  refine kX_i (As := [.int (xs (6 * k + 1)), .int (xs (6 * k + 2))]) (rest := []) (q0 := 0) ⟨hx, hb, hml, hown, hts⟩ (t_X9_apart l D cy ax _ J I O R RO LL Y (xs (6 * k + 1)) (xs (6 * k + 2)) hQ6 ⟨hM.1, hM.2.1, hM.2.2.1, hM.2.2.2.1, hM.2.2.2.2.1, hM.2.2.2.2.2.1, hM.2.2.2.2.2.2.1, hM.2.2.2.2.2.2.2.1, hRO0, hRO1, hRO2, hRO3⟩ hLk) (cwV 2 hts gq_X9_apart rfl rfl rfl (by decide +kernel) ⟨Nat.le_of_ble_eq_true rfl, Nat.le_of_ble_eq_true rfl⟩) hK hN hP hD hS hA rfl rfl rfl hl.1 rfl (Nat.le_of_ble_eq_true rfl) dL_law_667 ⟨(show 39 + 17 * k + 14 ≤ 600000 by omega), (show 18292 + 85786 * k + 68630 ≤ 7302249 by omega)⟩ (fun r_1 u H locs hw hP hD hS => ?_)
  obtain ⟨w_2, w_3, w_4, w_5, w_6, w_7, w_8, LL_9, Y_10, ⟨hs_11, hL_12, hp_13⟩, rfl⟩ := hw
  have hi_14 : chO Y_10 (O 7) := chO_mono hs_11 hM.2.1
  have hi_15 : layO Y_10 (O 8) := layO_mono hs_11 hM.2.2.1
  have hi_16 : ∀ i, i < 20 → pasO Y_10 ((RO 2) i) := pas_mono hs_11 hM.2.2.2.1
  have hmono_17 : ∀ c, c ∈ Y → c ∈ Y_10 := fun c h => hs_11 c ((fun _ h => h) c h)
  have hP : va_P D vwCl (MW cy am Jm Im Rm RJm ++ CT cy ax J (va_up (va_up I 10 w_2) 99 w_3) (va_up (va_up O 5 w_4) 100 w_5) (va_up (va_up (va_up R 4 w_6) 5 w_7) 6 w_8) RO (LL_9 ++ Y_10)) H := hP
  have hD : va_D (fun q : Nat => s.heap.size ≤ q) (MW cy am Jm Im Rm RJm ++ CT cy ax J (va_up (va_up I 10 w_2) 99 w_3) (va_up (va_up O 5 w_4) 100 w_5) (va_up (va_up (va_up R 4 w_6) 5 w_7) 6 w_8) RO (LL_9 ++ Y_10)) := hD
  refine lv_pop hx hb dL_law_670 rfl ?_
  refine lv_aload_n hx hb dL_law_671 rfl (lv_at hl 2 rfl) ?_
  refine lv_aload_n hx hb dL_law_672 rfl (lv_at hl 0 rfl) ?_
  refine lv_iload_n hx hb dL_law_673 rfl (lv_at hl 3 rfl) ?_
  refine lv_iconst (v := 1) hx hb dL_law_674 (by decide) ?_
  refine lv_iadd hx hb dL_law_675 ?_
  refine wtop_i (y := nI (6 * k + 1)) (by rw [← nI_add]; rfl) ?_
  refine va_sld hx hb hX hbl hbA hS (vp_in_nI (show 6 * k + 1 < L by omega) (by omega)) dL_law_676 ?_
  refine wtop_i (y := xs (6 * k + 1)) (by rw [nI_clamp (show 6 * k + 1 < 2 ^ 31 by omega)]) ?_
  refine lv_aload_n hx hb dL_law_677 rfl (lv_at hl 0 rfl) ?_
  refine lv_iload_n hx hb dL_law_678 rfl (lv_at hl 3 rfl) ?_
  refine lv_iconst (v := 2) hx hb dL_law_679 (by decide) ?_
  refine lv_iadd hx hb dL_law_680 ?_
  refine wtop_i (y := nI (6 * k + 2)) (by rw [← nI_add]; rfl) ?_
  refine va_sld hx hb hX hbl hbA hS (vp_in_nI (show 6 * k + 2 < L by omega) (by omega)) dL_law_681 ?_
  refine wtop_i (y := xs (6 * k + 2)) (by rw [nI_clamp (show 6 * k + 2 < 2 ^ 31 by omega)]) ?_
  refine kV_i (As := [.int (xs (6 * k + 1)), .int (xs (6 * k + 2))]) (rest := []) (q0 := 0) ⟨hx, hb, hml, hown, hts⟩ (t_X10_apart l D cy am _ Jm Im Rm RJm (xs (6 * k + 1)) (xs (6 * k + 2))  ⟨hMm.1, hMm.2.1, hMm.2.2.1, hMm.2.2.2.1, hMm.2.2.2.2.1, hMm.2.2.2.2.2⟩) (cwV 2 hts gq_X10_apart rfl rfl rfl (by decide +kernel) ⟨Nat.le_of_ble_eq_true rfl, Nat.le_of_ble_eq_true rfl⟩) hK hN hP hD hS hA rfl rfl rfl hl.1 rfl (Nat.le_of_ble_eq_true rfl) dL_law_682 ⟨(show 39 + 17 * k + 14 + 0 ≤ 600000 by omega), (show 18292 + 85786 * k + 68630 + 0 ≤ 7302249 by omega)⟩ (fun r_18 u H locs hw hP hD hS => ?_)
  obtain ⟨w_19, w_20, w_21, w_22, w_23, w_24, w_25, w_26, w_27, w_28, -, rfl⟩ := hw
  have hP : va_P D vwCl (MW cy am (va_up (va_up (va_up (va_up (va_up Jm 19 w_19) 20 w_20) 21 w_21) 22 w_22) 23 w_23) (va_up Im 13 w_24) (va_up (va_up (va_up (va_up Rm 11 w_25) 12 w_26) 13 w_27) 14 w_28) RJm ++ CT cy ax J (va_up (va_up I 10 w_2) 99 w_3) (va_up (va_up O 5 w_4) 100 w_5) (va_up (va_up (va_up R 4 w_6) 5 w_7) 6 w_8) RO (LL_9 ++ Y_10)) H := hP
  have hD : va_D (fun q : Nat => s.heap.size ≤ q) (MW cy am (va_up (va_up (va_up (va_up (va_up Jm 19 w_19) 20 w_20) 21 w_21) 22 w_22) 23 w_23) (va_up Im 13 w_24) (va_up (va_up (va_up (va_up Rm 11 w_25) 12 w_26) 13 w_27) 14 w_28) RJm ++ CT cy ax J (va_up (va_up I 10 w_2) 99 w_3) (va_up (va_up O 5 w_4) 100 w_5) (va_up (va_up (va_up R 4 w_6) 5 w_7) 6 w_8) RO (LL_9 ++ Y_10)) := hD
  refine lv_pop hx hb dL_law_685 rfl ?_
  refine lv_goto (tgt := 1035) hx hb dL_law_686 (by decide) ?_
  refine W.widen (k := 39 + 17 * (k + 1)) (n := 18292 + 85786 * (k + 1)) (show 39 + 17 * k + 14 + 0 ≤ _ by omega) (show 18292 + 85786 * k + 68630 + 0 ≤ _ by omega) ?_
  exact kk (va_up (va_up (va_up (va_up (va_up Jm 19 w_19) 20 w_20) 21 w_21) 22 w_22) 23 w_23) (va_up Im 13 w_24) (va_up (va_up (va_up (va_up Rm 11 w_25) 12 w_26) 13 w_27) 14 w_28) RJm J (va_up (va_up I 10 w_2) 99 w_3) (va_up (va_up O 5 w_4) 100 w_5) (va_up (va_up (va_up R 4 w_6) 5 w_7) 6 w_8) RO LL_9 Y_10 _ _ _ _ _ _ ⟨hMm.1, hMm.2.1, hMm.2.2.1, hMm.2.2.2.1, hMm.2.2.2.2.1, hMm.2.2.2.2.2⟩ ⟨hM.1, hi_14, hi_15, hi_16, hM.2.2.2.2.1, hM.2.2.2.2.2.1, hM.2.2.2.2.2.2.1, hM.2.2.2.2.2.2.2.1, hRO0, hRO1, hRO2, hRO3⟩ hL_12 hp_13 hQ hF hAm hSm (RCf_mono hmono_17 hAc) hSc hG _ _ hP hD hS ls (lv_sub hl [0, 1, 2, 3] rfl)
theorem dL_law_689 : decode cL_law 689 = .ok (.aload_n 1, 1) := by decide +kernel
theorem dL_law_690 : decode cL_law 690 = .ok (.aload_n 0, 1) := by decide +kernel
theorem dL_law_691 : decode cL_law 691 = .ok (.iload_n 3, 1) := by decide +kernel
theorem dL_law_692 : decode cL_law 692 = .ok (.iconst 1, 1) := by decide +kernel
theorem dL_law_693 : decode cL_law 693 = .ok (.iadd, 1) := by decide +kernel
theorem dL_law_694 : decode cL_law 694 = .ok (.iaload, 1) := by decide +kernel
theorem dL_law_695 : decode cL_law 695 = .ok (.aload_n 0, 1) := by decide +kernel
theorem dL_law_696 : decode cL_law 696 = .ok (.iload_n 3, 1) := by decide +kernel
theorem dL_law_697 : decode cL_law 697 = .ok (.iconst 2, 1) := by decide +kernel
theorem dL_law_698 : decode cL_law 698 = .ok (.iadd, 1) := by decide +kernel
theorem dL_law_699 : decode cL_law 699 = .ok (.iaload, 1) := by decide +kernel
theorem dL_law_700 : decode cL_law 700 = .ok (.aload_n 0, 1) := by decide +kernel
theorem dL_law_701 : decode cL_law 701 = .ok (.iload_n 3, 1) := by decide +kernel
theorem dL_law_702 : decode cL_law 702 = .ok (.iconst 3, 1) := by decide +kernel
theorem dL_law_703 : decode cL_law 703 = .ok (.iadd, 1) := by decide +kernel
theorem dL_law_704 : decode cL_law 704 = .ok (.iaload, 1) := by decide +kernel
theorem dL_law_705 : decode cL_law 705 = .ok (.invokevirtual 95, 3) := by decide +kernel
theorem dL_law_708 : decode cL_law 708 = .ok (.pop, 1) := by decide +kernel
theorem dL_law_709 : decode cL_law 709 = .ok (.aload_n 2, 1) := by decide +kernel
theorem dL_law_710 : decode cL_law 710 = .ok (.aload_n 0, 1) := by decide +kernel
theorem dL_law_711 : decode cL_law 711 = .ok (.iload_n 3, 1) := by decide +kernel
theorem dL_law_712 : decode cL_law 712 = .ok (.iconst 1, 1) := by decide +kernel
theorem dL_law_713 : decode cL_law 713 = .ok (.iadd, 1) := by decide +kernel
theorem dL_law_714 : decode cL_law 714 = .ok (.iaload, 1) := by decide +kernel
theorem dL_law_715 : decode cL_law 715 = .ok (.aload_n 0, 1) := by decide +kernel
theorem dL_law_716 : decode cL_law 716 = .ok (.iload_n 3, 1) := by decide +kernel
theorem dL_law_717 : decode cL_law 717 = .ok (.iconst 2, 1) := by decide +kernel
theorem dL_law_718 : decode cL_law 718 = .ok (.iadd, 1) := by decide +kernel
theorem dL_law_719 : decode cL_law 719 = .ok (.iaload, 1) := by decide +kernel
theorem dL_law_720 : decode cL_law 720 = .ok (.aload_n 0, 1) := by decide +kernel
theorem dL_law_721 : decode cL_law 721 = .ok (.iload_n 3, 1) := by decide +kernel
theorem dL_law_722 : decode cL_law 722 = .ok (.iconst 3, 1) := by decide +kernel
theorem dL_law_723 : decode cL_law 723 = .ok (.iadd, 1) := by decide +kernel
theorem dL_law_724 : decode cL_law 724 = .ok (.iaload, 1) := by decide +kernel
theorem dL_law_725 : decode cL_law 725 = .ok (.invokevirtual 99, 3) := by decide +kernel
theorem dL_law_728 : decode cL_law 728 = .ok (.pop, 1) := by decide +kernel
theorem dL_law_729 : decode cL_law 729 = .ok (.goto 306, 3) := by decide +kernel
set_option maxHeartbeats 4000000 in
set_option maxRecDepth 100000 in
theorem law_19 {p : Program} {e : Env} {s : State} {m : MethodId} {below : List Frame} {meth : Method} {c : Code} (l : Launch) {b L : Nat} {xs : Nat → Int32} {D : va_G} {cy : Nat → ClassId} (C0 : lawCtx p s m meth c b L xs D cy) (ax am : Nat → Nat) (k : Nat) (hk : 6 * k + 6 ≤ L) (hL384 : L ≤ 384) (Jm : Nat → Int64) (Im : Nat → Int32) (Rm : Nat → Nat → Int32) (RJm : Nat → Nat → Int64) (J : Nat → Int64) (I : Nat → Int32) (O : Nat → Option Nat) (R : Nat → Nat → Int32) (RO : Nat → Nat → Option Nat) (LL Y : va_W) (fl : Int64) (S : List Int32) (P : List PE) (Bs Zs : Nat → Int32) (Vs : Nat → Nat → Int32) (hMm : MI Im Rm) (hM : CI ax Y I O RO) (hLk : LOK cy (O 5) LL) (hQ6 : ∀ i, i < 81 → vp_in (R 6 i) 81) (hQ : Q64 (R 11)) (hF : Q64 (R 10)) (hAm : RMf (Jm 0) (Im 1) (Im 12) (Rm 1) (Rm 3) (Rm 4) (RJm 2) fl S P) (hSm : RMs (Rm 8) (Rm 9) (Rm 10) Bs Zs Vs) (hAc : RCf Y (J 6) (O 7) (I 9) (RO 2) fl S P) (hSc : RCs (I 385) (I 386) (R 13) (I 449) (I 450) (R 15) (I 513) (I 514) (R 17) (I 577) (I 578) (R 19) Bs Zs Vs) (hG : gAll fl S P) (kk : LK p l e s m below meth c b D cy ax am k (39 + 17 * (k + 1)) (18292 + 85786 * (k + 1)) 1035) (H : Heap) (locs : List Loc) (hP : va_P D vwCl (MW cy am Jm Im Rm RJm ++ CT cy ax J I O R RO (LL ++ Y)) H) (hD : va_D (fun q : Nat => s.heap.size ≤ q) (MW cy am Jm Im Rm RJm ++ CT cy ax J I O R RO (LL ++ Y))) (hS : va_S (fun q : Nat => s.heap.size ≤ q) s.heap H locs) (ls : Array Slot) (hl : lv_has ls 4 [(0, .ref b), (1, .ref (ax 0)), (2, .ref (am 0)), (3, .int (nI (6 * k)))]) : W p l e room_1 s m #[Value.ref b] below meth c H locs (39 + 17 * k) (18292 + 85786 * k) (lw_Z below #[Value.ref b] s) (F0 m 689 ls []) := by
  obtain ⟨⟨hx, hb, hr, hml, hown, hts, hX, hbl, hlocks, hgv⟩, hK, hN⟩ := C0
  have hown : s.vm.findClass RL = some m.cls := hown
  have hA : ∀ q : Nat, s.heap.size ≤ q → (fun q : Nat => s.heap.size ≤ q) q := fun _ h => h
  have hbA : ¬ (fun q : Nat => s.heap.size ≤ q) b := Nat.not_le.mpr hbl
  have hRO0 := hM.2.2.2.2.2.2.2.2.1
  have hRO1 := hM.2.2.2.2.2.2.2.2.2.1
  have hRO2 := hM.2.2.2.2.2.2.2.2.2.2.1
  have hRO3 := hM.2.2.2.2.2.2.2.2.2.2.2
  refine lv_aload_n hx hb dL_law_689 rfl (lv_at hl 1 rfl) ?_
  refine lv_aload_n hx hb dL_law_690 rfl (lv_at hl 0 rfl) ?_
  refine lv_iload_n hx hb dL_law_691 rfl (lv_at hl 3 rfl) ?_
  refine lv_iconst (v := 1) hx hb dL_law_692 (by decide) ?_
  refine lv_iadd hx hb dL_law_693 ?_
  refine wtop_i (y := nI (6 * k + 1)) (by rw [← nI_add]; rfl) ?_
  refine va_sld hx hb hX hbl hbA hS (vp_in_nI (show 6 * k + 1 < L by omega) (by omega)) dL_law_694 ?_
  refine wtop_i (y := xs (6 * k + 1)) (by rw [nI_clamp (show 6 * k + 1 < 2 ^ 31 by omega)]) ?_
  refine lv_aload_n hx hb dL_law_695 rfl (lv_at hl 0 rfl) ?_
  refine lv_iload_n hx hb dL_law_696 rfl (lv_at hl 3 rfl) ?_
  refine lv_iconst (v := 2) hx hb dL_law_697 (by decide) ?_
  refine lv_iadd hx hb dL_law_698 ?_
  refine wtop_i (y := nI (6 * k + 2)) (by rw [← nI_add]; rfl) ?_
  refine va_sld hx hb hX hbl hbA hS (vp_in_nI (show 6 * k + 2 < L by omega) (by omega)) dL_law_699 ?_
  refine wtop_i (y := xs (6 * k + 2)) (by rw [nI_clamp (show 6 * k + 2 < 2 ^ 31 by omega)]) ?_
  refine lv_aload_n hx hb dL_law_700 rfl (lv_at hl 0 rfl) ?_
  refine lv_iload_n hx hb dL_law_701 rfl (lv_at hl 3 rfl) ?_
  refine lv_iconst (v := 3) hx hb dL_law_702 (by decide) ?_
  refine lv_iadd hx hb dL_law_703 ?_
  refine wtop_i (y := nI (6 * k + 3)) (by rw [← nI_add]; rfl) ?_
  refine va_sld hx hb hX hbl hbA hS (vp_in_nI (show 6 * k + 3 < L by omega) (by omega)) dL_law_704 ?_
  refine wtop_i (y := xs (6 * k + 3)) (by rw [nI_clamp (show 6 * k + 3 < 2 ^ 31 by omega)]) ?_
  refine kX_i (As := [.int (xs (6 * k + 1)), .int (xs (6 * k + 2)), .int (xs (6 * k + 3))]) (rest := []) (q0 := 0) ⟨hx, hb, hml, hown, hts⟩ (t_X9_step l D cy ax _ J I O R RO LL Y (xs (6 * k + 1)) (xs (6 * k + 2)) (xs (6 * k + 3)) hQ6 ⟨hM.1, hM.2.1, hM.2.2.1, hM.2.2.2.1, hM.2.2.2.2.1, hM.2.2.2.2.2.1, hM.2.2.2.2.2.2.1, hM.2.2.2.2.2.2.2.1, hRO0, hRO1, hRO2, hRO3⟩ hLk) (cwV 3 hts gq_X9_step rfl rfl rfl (by decide +kernel) ⟨Nat.le_of_ble_eq_true rfl, Nat.le_of_ble_eq_true rfl⟩) hK hN hP hD hS hA rfl rfl rfl hl.1 rfl (Nat.le_of_ble_eq_true rfl) dL_law_705 ⟨(show 39 + 17 * k + 14 ≤ 600000 by omega), (show 18292 + 85786 * k + 68630 ≤ 7302249 by omega)⟩ (fun r_1 u H locs hw hP hD hS => ?_)
  obtain ⟨w_2, w_3, w_4, w_5, w_6, w_7, w_8, w_9, w_10, LL_11, Y_12, ⟨hs_13, hL_14, hp_15⟩, rfl⟩ := hw
  have hi_16 : chO Y_12 (O 7) := chO_mono hs_13 hM.2.1
  have hi_17 : layO Y_12 (O 8) := layO_mono hs_13 hM.2.2.1
  have hi_18 : ∀ i, i < 20 → pasO Y_12 ((RO 2) i) := pas_mono hs_13 hM.2.2.2.1
  have hmono_19 : ∀ c, c ∈ Y → c ∈ Y_12 := fun c h => hs_13 c ((fun _ h => h) c h)
  have hP : va_P D vwCl (MW cy am Jm Im Rm RJm ++ CT cy ax (va_up (va_up J 224 w_2) 225 w_3) (va_up (va_up I 10 w_4) 99 w_5) (va_up (va_up O 5 w_6) 100 w_7) (va_up (va_up (va_up R 4 w_8) 5 w_9) 6 w_10) RO (LL_11 ++ Y_12)) H := hP
  have hD : va_D (fun q : Nat => s.heap.size ≤ q) (MW cy am Jm Im Rm RJm ++ CT cy ax (va_up (va_up J 224 w_2) 225 w_3) (va_up (va_up I 10 w_4) 99 w_5) (va_up (va_up O 5 w_6) 100 w_7) (va_up (va_up (va_up R 4 w_8) 5 w_9) 6 w_10) RO (LL_11 ++ Y_12)) := hD
  refine lv_pop hx hb dL_law_708 rfl ?_
  refine lv_aload_n hx hb dL_law_709 rfl (lv_at hl 2 rfl) ?_
  refine lv_aload_n hx hb dL_law_710 rfl (lv_at hl 0 rfl) ?_
  refine lv_iload_n hx hb dL_law_711 rfl (lv_at hl 3 rfl) ?_
  refine lv_iconst (v := 1) hx hb dL_law_712 (by decide) ?_
  refine lv_iadd hx hb dL_law_713 ?_
  refine wtop_i (y := nI (6 * k + 1)) (by rw [← nI_add]; rfl) ?_
  refine va_sld hx hb hX hbl hbA hS (vp_in_nI (show 6 * k + 1 < L by omega) (by omega)) dL_law_714 ?_
  refine wtop_i (y := xs (6 * k + 1)) (by rw [nI_clamp (show 6 * k + 1 < 2 ^ 31 by omega)]) ?_
  refine lv_aload_n hx hb dL_law_715 rfl (lv_at hl 0 rfl) ?_
  refine lv_iload_n hx hb dL_law_716 rfl (lv_at hl 3 rfl) ?_
  refine lv_iconst (v := 2) hx hb dL_law_717 (by decide) ?_
  refine lv_iadd hx hb dL_law_718 ?_
  refine wtop_i (y := nI (6 * k + 2)) (by rw [← nI_add]; rfl) ?_
  refine va_sld hx hb hX hbl hbA hS (vp_in_nI (show 6 * k + 2 < L by omega) (by omega)) dL_law_719 ?_
  refine wtop_i (y := xs (6 * k + 2)) (by rw [nI_clamp (show 6 * k + 2 < 2 ^ 31 by omega)]) ?_
  refine lv_aload_n hx hb dL_law_720 rfl (lv_at hl 0 rfl) ?_
  refine lv_iload_n hx hb dL_law_721 rfl (lv_at hl 3 rfl) ?_
  refine lv_iconst (v := 3) hx hb dL_law_722 (by decide) ?_
  refine lv_iadd hx hb dL_law_723 ?_
  refine wtop_i (y := nI (6 * k + 3)) (by rw [← nI_add]; rfl) ?_
  refine va_sld hx hb hX hbl hbA hS (vp_in_nI (show 6 * k + 3 < L by omega) (by omega)) dL_law_724 ?_
  refine wtop_i (y := xs (6 * k + 3)) (by rw [nI_clamp (show 6 * k + 3 < 2 ^ 31 by omega)]) ?_
  refine kV_i (As := [.int (xs (6 * k + 1)), .int (xs (6 * k + 2)), .int (xs (6 * k + 3))]) (rest := []) (q0 := 0) ⟨hx, hb, hml, hown, hts⟩ (t_X10_step l D cy am _ Jm Im Rm RJm (xs (6 * k + 1)) (xs (6 * k + 2)) (xs (6 * k + 3))  ⟨hMm.1, hMm.2.1, hMm.2.2.1, hMm.2.2.2.1, hMm.2.2.2.2.1, hMm.2.2.2.2.2⟩) (cwV 3 hts gq_X10_step rfl rfl rfl (by decide +kernel) ⟨Nat.le_of_ble_eq_true rfl, Nat.le_of_ble_eq_true rfl⟩) hK hN hP hD hS hA rfl rfl rfl hl.1 rfl (Nat.le_of_ble_eq_true rfl) dL_law_725 ⟨(show 39 + 17 * k + 14 + 0 ≤ 600000 by omega), (show 18292 + 85786 * k + 68630 + 0 ≤ 7302249 by omega)⟩ (fun r_20 u H locs hw hP hD hS => ?_)
  obtain ⟨w_21, w_22, w_23, w_24, w_25, w_26, w_27, w_28, w_29, w_30, -, rfl⟩ := hw
  have hP : va_P D vwCl (MW cy am (va_up (va_up (va_up (va_up (va_up Jm 19 w_21) 20 w_22) 21 w_23) 22 w_24) 23 w_25) (va_up Im 13 w_26) (va_up (va_up (va_up (va_up Rm 11 w_27) 12 w_28) 13 w_29) 14 w_30) RJm ++ CT cy ax (va_up (va_up J 224 w_2) 225 w_3) (va_up (va_up I 10 w_4) 99 w_5) (va_up (va_up O 5 w_6) 100 w_7) (va_up (va_up (va_up R 4 w_8) 5 w_9) 6 w_10) RO (LL_11 ++ Y_12)) H := hP
  have hD : va_D (fun q : Nat => s.heap.size ≤ q) (MW cy am (va_up (va_up (va_up (va_up (va_up Jm 19 w_21) 20 w_22) 21 w_23) 22 w_24) 23 w_25) (va_up Im 13 w_26) (va_up (va_up (va_up (va_up Rm 11 w_27) 12 w_28) 13 w_29) 14 w_30) RJm ++ CT cy ax (va_up (va_up J 224 w_2) 225 w_3) (va_up (va_up I 10 w_4) 99 w_5) (va_up (va_up O 5 w_6) 100 w_7) (va_up (va_up (va_up R 4 w_8) 5 w_9) 6 w_10) RO (LL_11 ++ Y_12)) := hD
  refine lv_pop hx hb dL_law_728 rfl ?_
  refine lv_goto (tgt := 1035) hx hb dL_law_729 (by decide) ?_
  refine W.widen (k := 39 + 17 * (k + 1)) (n := 18292 + 85786 * (k + 1)) (show 39 + 17 * k + 14 + 0 ≤ _ by omega) (show 18292 + 85786 * k + 68630 + 0 ≤ _ by omega) ?_
  exact kk (va_up (va_up (va_up (va_up (va_up Jm 19 w_21) 20 w_22) 21 w_23) 22 w_24) 23 w_25) (va_up Im 13 w_26) (va_up (va_up (va_up (va_up Rm 11 w_27) 12 w_28) 13 w_29) 14 w_30) RJm (va_up (va_up J 224 w_2) 225 w_3) (va_up (va_up I 10 w_4) 99 w_5) (va_up (va_up O 5 w_6) 100 w_7) (va_up (va_up (va_up R 4 w_8) 5 w_9) 6 w_10) RO LL_11 Y_12 _ _ _ _ _ _ ⟨hMm.1, hMm.2.1, hMm.2.2.1, hMm.2.2.2.1, hMm.2.2.2.2.1, hMm.2.2.2.2.2⟩ ⟨hM.1, hi_16, hi_17, hi_18, hM.2.2.2.2.1, hM.2.2.2.2.2.1, hM.2.2.2.2.2.2.1, hM.2.2.2.2.2.2.2.1, hRO0, hRO1, hRO2, hRO3⟩ hL_14 hp_15 hQ hF hAm hSm (RCf_mono hmono_19 hAc) hSc hG _ _ hP hD hS ls (lv_sub hl [0, 1, 2, 3] rfl)
