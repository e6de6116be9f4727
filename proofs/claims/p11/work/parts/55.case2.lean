theorem dL_law_476 : decode cL_law 476 = .ok (.aload_n 1, 1) := by decide +kernel
theorem dL_law_477 : decode cL_law 477 = .ok (.invokevirtual 58, 3) := by decide +kernel
theorem dL_law_480 : decode cL_law 480 = .ok (.pop, 1) := by decide +kernel
theorem dL_law_481 : decode cL_law 481 = .ok (.aload_n 2, 1) := by decide +kernel
theorem dL_law_482 : decode cL_law 482 = .ok (.invokevirtual 61, 3) := by decide +kernel
theorem dL_law_485 : decode cL_law 485 = .ok (.pop, 1) := by decide +kernel
theorem dL_law_486 : decode cL_law 486 = .ok (.goto 549, 3) := by decide +kernel
set_option maxHeartbeats 4000000 in
set_option maxRecDepth 100000 in
theorem law_10 {p : Program} {e : Env} {s : State} {m : MethodId} {below : List Frame} {meth : Method} {c : Code} (l : Launch) {b L : Nat} {xs : Nat → Int32} {D : va_G} {cy : Nat → ClassId} (C0 : lawCtx p s m meth c b L xs D cy) (ax am : Nat → Nat) (k : Nat) (hk : 6 * k + 6 ≤ L) (hL384 : L ≤ 384) (Jm : Nat → Int64) (Im : Nat → Int32) (Rm : Nat → Nat → Int32) (RJm : Nat → Nat → Int64) (J : Nat → Int64) (I : Nat → Int32) (O : Nat → Option Nat) (R : Nat → Nat → Int32) (RO : Nat → Nat → Option Nat) (LL Y : va_W) (fl : Int64) (S : List Int32) (P : List PE) (Bs Zs : Nat → Int32) (Vs : Nat → Nat → Int32) (hMm : MI Im Rm) (hM : CI ax Y I O RO) (hLk : LOK cy (O 5) LL) (hQ6 : ∀ i, i < 81 → vp_in (R 6 i) 81) (hQ : Q64 (R 11)) (hF : Q64 (R 10)) (hAm : RMf (Jm 0) (Im 1) (Im 12) (Rm 1) (Rm 3) (Rm 4) (RJm 2) fl S P) (hSm : RMs (Rm 8) (Rm 9) (Rm 10) Bs Zs Vs) (hAc : RCf Y (J 6) (O 7) (I 9) (RO 2) fl S P) (hSc : RCs (I 385) (I 386) (R 13) (I 449) (I 450) (R 15) (I 513) (I 514) (R 17) (I 577) (I 578) (R 19) Bs Zs Vs) (hG : gAll fl S P) (kk : LK p l e s m below meth c b D cy ax am k (39 + 17 * (k + 1)) (18292 + 85786 * (k + 1)) 1035) (H : Heap) (locs : List Loc) (hP : va_P D vwCl (MW cy am Jm Im Rm RJm ++ CT cy ax J I O R RO (LL ++ Y)) H) (hD : va_D (fun q : Nat => s.heap.size ≤ q) (MW cy am Jm Im Rm RJm ++ CT cy ax J I O R RO (LL ++ Y))) (hS : va_S (fun q : Nat => s.heap.size ≤ q) s.heap H locs) (ls : Array Slot) (hl : lv_has ls 4 [(0, .ref b), (1, .ref (ax 0)), (2, .ref (am 0)), (3, .int (nI (6 * k)))]) : W p l e room_1 s m #[Value.ref b] below meth c H locs (39 + 17 * k) (18292 + 85786 * k) (lw_Z below #[Value.ref b] s) (F0 m 476 ls []) := by
  obtain ⟨⟨hx, hb, hr, hml, hown, hts, hX, hbl, hlocks, hgv⟩, hK, hN⟩ := C0
  have hown : s.vm.findClass RL = some m.cls := hown
  have hA : ∀ q : Nat, s.heap.size ≤ q → (fun q : Nat => s.heap.size ≤ q) q := fun _ h => h
  have hbA : ¬ (fun q : Nat => s.heap.size ≤ q) b := Nat.not_le.mpr hbl
  have hRO0 := hM.2.2.2.2.2.2.2.2.1
  have hRO1 := hM.2.2.2.2.2.2.2.2.2.1
  have hRO2 := hM.2.2.2.2.2.2.2.2.2.2.1
  have hRO3 := hM.2.2.2.2.2.2.2.2.2.2.2
  refine lv_aload_n hx hb dL_law_476 rfl (lv_at hl 1 rfl) ?_
  refine kX_i (As := []) (rest := []) (q0 := 0) ⟨hx, hb, hml, hown, hts⟩ (t_X9_rank l D cy ax _ J I O R RO LL Y   ⟨hM.1, hM.2.1, hM.2.2.1, hM.2.2.2.1, hM.2.2.2.2.1, hM.2.2.2.2.2.1, hM.2.2.2.2.2.2.1, hM.2.2.2.2.2.2.2.1, hRO0, hRO1, hRO2, hRO3⟩ ) (cwV 0 hts gq_X9_rank rfl rfl rfl (by decide +kernel) ⟨Nat.le_of_ble_eq_true rfl, Nat.le_of_ble_eq_true rfl⟩) hK hN hP hD hS hA rfl rfl rfl hl.1 rfl (Nat.le_of_ble_eq_true rfl) dL_law_477 ⟨(show 39 + 17 * k + 0 ≤ 600000 by omega), (show 18292 + 85786 * k + 0 ≤ 7302249 by omega)⟩ (fun r_1 u H locs hw hP hD hS => ?_)
  obtain ⟨w_2, w_3, hi_4, rfl⟩ := hw
  have hP : va_P D vwCl (MW cy am Jm Im Rm RJm ++ CT cy ax J (va_up I 10 w_2) (va_up O 8 w_3) R RO (LL ++ Y)) H := hP
  have hD : va_D (fun q : Nat => s.heap.size ≤ q) (MW cy am Jm Im Rm RJm ++ CT cy ax J (va_up I 10 w_2) (va_up O 8 w_3) R RO (LL ++ Y)) := hD
  refine lv_pop hx hb dL_law_480 rfl ?_
  refine lv_aload_n hx hb dL_law_481 rfl (lv_at hl 2 rfl) ?_
  refine kV_i (As := []) (rest := []) (q0 := 0) ⟨hx, hb, hml, hown, hts⟩ (t_X10_rank l D cy am _ Jm Im Rm RJm   ⟨hMm.1, hMm.2.1, hMm.2.2.1, hMm.2.2.2.1, hMm.2.2.2.2.1, hMm.2.2.2.2.2⟩) (cwV 0 hts gq_X10_rank rfl rfl rfl (by decide +kernel) ⟨Nat.le_of_ble_eq_true rfl, Nat.le_of_ble_eq_true rfl⟩) hK hN hP hD hS hA rfl rfl rfl hl.1 rfl (Nat.le_of_ble_eq_true rfl) dL_law_482 ⟨(show 39 + 17 * k + 0 + 0 ≤ 600000 by omega), (show 18292 + 85786 * k + 0 + 0 ≤ 7302249 by omega)⟩ (fun r_5 u H locs hw hP hD hS => ?_)
  obtain ⟨w_6, w_7, w_8, w_9, w_10, -, rfl⟩ := hw
  have hP : va_P D vwCl (MW cy am (va_up (va_up (va_up Jm 19 w_6) 20 w_7) 21 w_8) (va_up Im 13 w_9) (va_up Rm 12 w_10) RJm ++ CT cy ax J (va_up I 10 w_2) (va_up O 8 w_3) R RO (LL ++ Y)) H := hP
  have hD : va_D (fun q : Nat => s.heap.size ≤ q) (MW cy am (va_up (va_up (va_up Jm 19 w_6) 20 w_7) 21 w_8) (va_up Im 13 w_9) (va_up Rm 12 w_10) RJm ++ CT cy ax J (va_up I 10 w_2) (va_up O 8 w_3) R RO (LL ++ Y)) := hD
  refine lv_pop hx hb dL_law_485 rfl ?_
  refine lv_goto (tgt := 1035) hx hb dL_law_486 (by decide) ?_
  refine W.widen (k := 39 + 17 * (k + 1)) (n := 18292 + 85786 * (k + 1)) (show 39 + 17 * k + 0 + 0 ≤ _ by omega) (show 18292 + 85786 * k + 0 + 0 ≤ _ by omega) ?_
  exact kk (va_up (va_up (va_up Jm 19 w_6) 20 w_7) 21 w_8) (va_up Im 13 w_9) (va_up Rm 12 w_10) RJm J (va_up I 10 w_2) (va_up O 8 w_3) R RO LL Y _ _ _ _ _ _ ⟨hMm.1, hMm.2.1, hMm.2.2.1, hMm.2.2.2.1, hMm.2.2.2.2.1, hMm.2.2.2.2.2⟩ ⟨hM.1, hM.2.1, hi_4, hM.2.2.2.1, hM.2.2.2.2.1, hM.2.2.2.2.2.1, hM.2.2.2.2.2.2.1, hM.2.2.2.2.2.2.2.1, hRO0, hRO1, hRO2, hRO3⟩ hLk hQ6 hQ hF hAm hSm hAc hSc hG _ _ hP hD hS ls (lv_sub hl [0, 1, 2, 3] rfl)
theorem dL_law_489 : decode cL_law 489 = .ok (.aload_n 1, 1) := by decide +kernel
theorem dL_law_490 : decode cL_law 490 = .ok (.invokevirtual 62, 3) := by decide +kernel
theorem dL_law_493 : decode cL_law 493 = .ok (.pop, 1) := by decide +kernel
theorem dL_law_494 : decode cL_law 494 = .ok (.aload_n 2, 1) := by decide +kernel
theorem dL_law_495 : decode cL_law 495 = .ok (.invokevirtual 65, 3) := by decide +kernel
theorem dL_law_498 : decode cL_law 498 = .ok (.pop, 1) := by decide +kernel
theorem dL_law_499 : decode cL_law 499 = .ok (.goto 536, 3) := by decide +kernel
set_option maxHeartbeats 4000000 in
set_option maxRecDepth 100000 in
theorem law_11 {p : Program} {e : Env} {s : State} {m : MethodId} {below : List Frame} {meth : Method} {c : Code} (l : Launch) {b L : Nat} {xs : Nat → Int32} {D : va_G} {cy : Nat → ClassId} (C0 : lawCtx p s m meth c b L xs D cy) (ax am : Nat → Nat) (k : Nat) (hk : 6 * k + 6 ≤ L) (hL384 : L ≤ 384) (Jm : Nat → Int64) (Im : Nat → Int32) (Rm : Nat → Nat → Int32) (RJm : Nat → Nat → Int64) (J : Nat → Int64) (I : Nat → Int32) (O : Nat → Option Nat) (R : Nat → Nat → Int32) (RO : Nat → Nat → Option Nat) (LL Y : va_W) (fl : Int64) (S : List Int32) (P : List PE) (Bs Zs : Nat → Int32) (Vs : Nat → Nat → Int32) (hMm : MI Im Rm) (hM : CI ax Y I O RO) (hLk : LOK cy (O 5) LL) (hQ6 : ∀ i, i < 81 → vp_in (R 6 i) 81) (hQ : Q64 (R 11)) (hF : Q64 (R 10)) (hAm : RMf (Jm 0) (Im 1) (Im 12) (Rm 1) (Rm 3) (Rm 4) (RJm 2) fl S P) (hSm : RMs (Rm 8) (Rm 9) (Rm 10) Bs Zs Vs) (hAc : RCf Y (J 6) (O 7) (I 9) (RO 2) fl S P) (hSc : RCs (I 385) (I 386) (R 13) (I 449) (I 450) (R 15) (I 513) (I 514) (R 17) (I 577) (I 578) (R 19) Bs Zs Vs) (hG : gAll fl S P) (kk : LK p l e s m below meth c b D cy ax am k (39 + 17 * (k + 1)) (18292 + 85786 * (k + 1)) 1035) (H : Heap) (locs : List Loc) (hP : va_P D vwCl (MW cy am Jm Im Rm RJm ++ CT cy ax J I O R RO (LL ++ Y)) H) (hD : va_D (fun q : Nat => s.heap.size ≤ q) (MW cy am Jm Im Rm RJm ++ CT cy ax J I O R RO (LL ++ Y))) (hS : va_S (fun q : Nat => s.heap.size ≤ q) s.heap H locs) (ls : Array Slot) (hl : lv_has ls 4 [(0, .ref b), (1, .ref (ax 0)), (2, .ref (am 0)), (3, .int (nI (6 * k)))]) : W p l e room_1 s m #[Value.ref b] below meth c H locs (39 + 17 * k) (18292 + 85786 * k) (lw_Z below #[Value.ref b] s) (F0 m 489 ls []) := by
  obtain ⟨⟨hx, hb, hr, hml, hown, hts, hX, hbl, hlocks, hgv⟩, hK, hN⟩ := C0
  have hown : s.vm.findClass RL = some m.cls := hown
  have hA : ∀ q : Nat, s.heap.size ≤ q → (fun q : Nat => s.heap.size ≤ q) q := fun _ h => h
  have hbA : ¬ (fun q : Nat => s.heap.size ≤ q) b := Nat.not_le.mpr hbl
  have hRO0 := hM.2.2.2.2.2.2.2.2.1
  have hRO1 := hM.2.2.2.2.2.2.2.2.2.1
  have hRO2 := hM.2.2.2.2.2.2.2.2.2.2.1
  have hRO3 := hM.2.2.2.2.2.2.2.2.2.2.2
  refine lv_aload_n hx hb dL_law_489 rfl (lv_at hl 1 rfl) ?_
  refine kX_i (As := []) (rest := []) (q0 := 0) ⟨hx, hb, hml, hown, hts⟩ (t_X9_next l D cy ax _ J I O R RO LL Y   ⟨hM.1, hM.2.1, hM.2.2.1, hM.2.2.2.1, hM.2.2.2.2.1, hM.2.2.2.2.2.1, hM.2.2.2.2.2.2.1, hM.2.2.2.2.2.2.2.1, hRO0, hRO1, hRO2, hRO3⟩ hLk) (cwV 0 hts gq_X9_next rfl rfl rfl (by decide +kernel) ⟨Nat.le_of_ble_eq_true rfl, Nat.le_of_ble_eq_true rfl⟩) hK hN hP hD hS hA rfl rfl rfl hl.1 rfl (Nat.le_of_ble_eq_true rfl) dL_law_490 ⟨(show 39 + 17 * k + 7 ≤ 600000 by omega), (show 18292 + 85786 * k + 34315 ≤ 7302249 by omega)⟩ (fun r_1 u H locs hw hP hD hS => ?_)
  obtain ⟨w_2, w_3, w_4, LL_5, Y_6, ⟨hi_7, hs_8, hL_9⟩, rfl⟩ := hw
  have hi_10 : chO Y_6 (O 7) := chO_mono hs_8 hM.2.1
  have hi_11 : ∀ i, i < 20 → pasO Y_6 ((RO 2) i) := pas_mono hs_8 hM.2.2.2.1
  have hmono_12 : ∀ c, c ∈ Y → c ∈ Y_6 := fun c h => hs_8 c ((fun _ h => h) c h)
  have hP : va_P D vwCl (MW cy am Jm Im Rm RJm ++ CT cy ax J (va_up I 10 w_2) (va_up (va_up O 5 w_3) 8 w_4) R RO (LL_5 ++ Y_6)) H := hP
  have hD : va_D (fun q : Nat => s.heap.size ≤ q) (MW cy am Jm Im Rm RJm ++ CT cy ax J (va_up I 10 w_2) (va_up (va_up O 5 w_3) 8 w_4) R RO (LL_5 ++ Y_6)) := hD
  refine lv_pop hx hb dL_law_493 rfl ?_
  refine lv_aload_n hx hb dL_law_494 rfl (lv_at hl 2 rfl) ?_
  refine kV_i (As := []) (rest := []) (q0 := 0) ⟨hx, hb, hml, hown, hts⟩ (t_X10_next l D cy am _ Jm Im Rm RJm   ⟨hMm.1, hMm.2.1, hMm.2.2.1, hMm.2.2.2.1, hMm.2.2.2.2.1, hMm.2.2.2.2.2⟩) (cwV 0 hts gq_X10_next rfl rfl rfl (by decide +kernel) ⟨Nat.le_of_ble_eq_true rfl, Nat.le_of_ble_eq_true rfl⟩) hK hN hP hD hS hA rfl rfl rfl hl.1 rfl (Nat.le_of_ble_eq_true rfl) dL_law_495 ⟨(show 39 + 17 * k + 7 + 0 ≤ 600000 by omega), (show 18292 + 85786 * k + 34315 + 0 ≤ 7302249 by omega)⟩ (fun r_13 u H locs hw hP hD hS => ?_)
  obtain ⟨w_14, w_15, w_16, w_17, w_18, w_19, w_20, w_21, w_22, w_23, hi_24, rfl⟩ := hw
  have hP : va_P D vwCl (MW cy am (va_up (va_up (va_up (va_up (va_up (va_up (va_up Jm 4 w_14) 5 w_15) 19 w_16) 20 w_17) 21 w_18) 22 w_19) 23 w_20) (va_up (va_up Im 3 w_21) 13 w_22) (va_up Rm 12 w_23) RJm ++ CT cy ax J (va_up I 10 w_2) (va_up (va_up O 5 w_3) 8 w_4) R RO (LL_5 ++ Y_6)) H := hP
  have hD : va_D (fun q : Nat => s.heap.size ≤ q) (MW cy am (va_up (va_up (va_up (va_up (va_up (va_up (va_up Jm 4 w_14) 5 w_15) 19 w_16) 20 w_17) 21 w_18) 22 w_19) 23 w_20) (va_up (va_up Im 3 w_21) 13 w_22) (va_up Rm 12 w_23) RJm ++ CT cy ax J (va_up I 10 w_2) (va_up (va_up O 5 w_3) 8 w_4) R RO (LL_5 ++ Y_6)) := hD
  refine lv_pop hx hb dL_law_498 rfl ?_
  refine lv_goto (tgt := 1035) hx hb dL_law_499 (by decide) ?_
  refine W.widen (k := 39 + 17 * (k + 1)) (n := 18292 + 85786 * (k + 1)) (show 39 + 17 * k + 7 + 0 ≤ _ by omega) (show 18292 + 85786 * k + 34315 + 0 ≤ _ by omega) ?_
  exact kk (va_up (va_up (va_up (va_up (va_up (va_up (va_up Jm 4 w_14) 5 w_15) 19 w_16) 20 w_17) 21 w_18) 22 w_19) 23 w_20) (va_up (va_up Im 3 w_21) 13 w_22) (va_up Rm 12 w_23) RJm J (va_up I 10 w_2) (va_up (va_up O 5 w_3) 8 w_4) R RO LL_5 Y_6 _ _ _ _ _ _ ⟨hMm.1, hi_24, hMm.2.2.1, hMm.2.2.2.1, hMm.2.2.2.2.1, hMm.2.2.2.2.2⟩ ⟨hM.1, hi_10, hi_7, hi_11, hM.2.2.2.2.1, hM.2.2.2.2.2.1, hM.2.2.2.2.2.2.1, hM.2.2.2.2.2.2.2.1, hRO0, hRO1, hRO2, hRO3⟩ hL_9 hQ6 hQ hF hAm hSm (RCf_mono hmono_12 hAc) hSc hG _ _ hP hD hS ls (lv_sub hl [0, 1, 2, 3] rfl)
theorem dL_law_502 : decode cL_law 502 = .ok (.aload_n 1, 1) := by decide +kernel
theorem dL_law_503 : decode cL_law 503 = .ok (.aload_n 0, 1) := by decide +kernel
theorem dL_law_504 : decode cL_law 504 = .ok (.iload_n 3, 1) := by decide +kernel
theorem dL_law_505 : decode cL_law 505 = .ok (.iconst 1, 1) := by decide +kernel
theorem dL_law_506 : decode cL_law 506 = .ok (.iadd, 1) := by decide +kernel
theorem dL_law_507 : decode cL_law 507 = .ok (.iaload, 1) := by decide +kernel
theorem dL_law_508 : decode cL_law 508 = .ok (.invokevirtual 66, 3) := by decide +kernel
theorem dL_law_511 : decode cL_law 511 = .ok (.pop, 1) := by decide +kernel
theorem dL_law_512 : decode cL_law 512 = .ok (.aload_n 2, 1) := by decide +kernel
theorem dL_law_513 : decode cL_law 513 = .ok (.aload_n 0, 1) := by decide +kernel
theorem dL_law_514 : decode cL_law 514 = .ok (.iload_n 3, 1) := by decide +kernel
theorem dL_law_515 : decode cL_law 515 = .ok (.iconst 1, 1) := by decide +kernel
theorem dL_law_516 : decode cL_law 516 = .ok (.iadd, 1) := by decide +kernel
theorem dL_law_517 : decode cL_law 517 = .ok (.iaload, 1) := by decide +kernel
theorem dL_law_518 : decode cL_law 518 = .ok (.invokevirtual 69, 3) := by decide +kernel
theorem dL_law_521 : decode cL_law 521 = .ok (.pop, 1) := by decide +kernel
theorem dL_law_522 : decode cL_law 522 = .ok (.goto 513, 3) := by decide +kernel
set_option maxHeartbeats 4000000 in
set_option maxRecDepth 100000 in
theorem law_12 {p : Program} {e : Env} {s : State} {m : MethodId} {below : List Frame} {meth : Method} {c : Code} (l : Launch) {b L : Nat} {xs : Nat → Int32} {D : va_G} {cy : Nat → ClassId} (C0 : lawCtx p s m meth c b L xs D cy) (ax am : Nat → Nat) (k : Nat) (hk : 6 * k + 6 ≤ L) (hL384 : L ≤ 384) (Jm : Nat → Int64) (Im : Nat → Int32) (Rm : Nat → Nat → Int32) (RJm : Nat → Nat → Int64) (J : Nat → Int64) (I : Nat → Int32) (O : Nat → Option Nat) (R : Nat → Nat → Int32) (RO : Nat → Nat → Option Nat) (LL Y : va_W) (fl : Int64) (S : List Int32) (P : List PE) (Bs Zs : Nat → Int32) (Vs : Nat → Nat → Int32) (hMm : MI Im Rm) (hM : CI ax Y I O RO) (hLk : LOK cy (O 5) LL) (hQ6 : ∀ i, i < 81 → vp_in (R 6 i) 81) (hQ : Q64 (R 11)) (hF : Q64 (R 10)) (hAm : RMf (Jm 0) (Im 1) (Im 12) (Rm 1) (Rm 3) (Rm 4) (RJm 2) fl S P) (hSm : RMs (Rm 8) (Rm 9) (Rm 10) Bs Zs Vs) (hAc : RCf Y (J 6) (O 7) (I 9) (RO 2) fl S P) (hSc : RCs (I 385) (I 386) (R 13) (I 449) (I 450) (R 15) (I 513) (I 514) (R 17) (I 577) (I 578) (R 19) Bs Zs Vs) (hG : gAll fl S P) (kk : LK p l e s m below meth c b D cy ax am k (39 + 17 * (k + 1)) (18292 + 85786 * (k + 1)) 1035) (H : Heap) (locs : List Loc) (hP : va_P D vwCl (MW cy am Jm Im Rm RJm ++ CT cy ax J I O R RO (LL ++ Y)) H) (hD : va_D (fun q : Nat => s.heap.size ≤ q) (MW cy am Jm Im Rm RJm ++ CT cy ax J I O R RO (LL ++ Y))) (hS : va_S (fun q : Nat => s.heap.size ≤ q) s.heap H locs) (ls : Array Slot) (hl : lv_has ls 4 [(0, .ref b), (1, .ref (ax 0)), (2, .ref (am 0)), (3, .int (nI (6 * k)))]) : W p l e room_1 s m #[Value.ref b] below meth c H locs (39 + 17 * k) (18292 + 85786 * k) (lw_Z below #[Value.ref b] s) (F0 m 502 ls []) := by
  obtain ⟨⟨hx, hb, hr, hml, hown, hts, hX, hbl, hlocks, hgv⟩, hK, hN⟩ := C0
  have hown : s.vm.findClass RL = some m.cls := hown
  have hA : ∀ q : Nat, s.heap.size ≤ q → (fun q : Nat => s.heap.size ≤ q) q := fun _ h => h
  have hbA : ¬ (fun q : Nat => s.heap.size ≤ q) b := Nat.not_le.mpr hbl
  have hRO0 := hM.2.2.2.2.2.2.2.2.1
  have hRO1 := hM.2.2.2.2.2.2.2.2.2.1
  have hRO2 := hM.2.2.2.2.2.2.2.2.2.2.1
  have hRO3 := hM.2.2.2.2.2.2.2.2.2.2.2
  refine lv_aload_n hx hb dL_law_502 rfl (lv_at hl 1 rfl) ?_
  refine lv_aload_n hx hb dL_law_503 rfl (lv_at hl 0 rfl) ?_
  refine lv_iload_n hx hb dL_law_504 rfl (lv_at hl 3 rfl) ?_
  refine lv_iconst (v := 1) hx hb dL_law_505 (by decide) ?_
  refine lv_iadd hx hb dL_law_506 ?_
  refine wtop_i (y := nI (6 * k + 1)) (by rw [← nI_add]; rfl) ?_
  refine va_sld hx hb hX hbl hbA hS (vp_in_nI (show 6 * k + 1 < L by omega) (by omega)) dL_law_507 ?_
  refine wtop_i (y := xs (6 * k + 1)) (by rw [nI_clamp (show 6 * k + 1 < 2 ^ 31 by omega)]) ?_
  refine kX_i (As := [.int (xs (6 * k + 1))]) (rest := []) (q0 := 0) ⟨hx, hb, hml, hown, hts⟩ (t_X9_draw l D cy ax _ J I O R RO LL Y (xs (6 * k + 1))  ⟨hM.1, hM.2.1, hM.2.2.1, hM.2.2.2.1, hM.2.2.2.2.1, hM.2.2.2.2.2.1, hM.2.2.2.2.2.2.1, hM.2.2.2.2.2.2.2.1, hRO0, hRO1, hRO2, hRO3⟩ hLk) (cwV 1 hts gq_X9_draw rfl rfl rfl (by decide +kernel) ⟨Nat.le_of_ble_eq_true rfl, Nat.le_of_ble_eq_true rfl⟩) hK hN hP hD hS hA rfl rfl rfl hl.1 rfl (Nat.le_of_ble_eq_true rfl) dL_law_508 ⟨(show 39 + 17 * k + 7 ≤ 600000 by omega), (show 18292 + 85786 * k + 34315 ≤ 7302249 by omega)⟩ (fun r_1 u H locs hw hP hD hS => ?_)
  obtain ⟨w_2, w_3, w_4, LL_5, Y_6, ⟨hi_7, hs_8, hL_9⟩, rfl⟩ := hw
  have hi_10 : chO Y_6 (O 7) := chO_mono hs_8 hM.2.1
  have hi_11 : ∀ i, i < 20 → pasO Y_6 ((RO 2) i) := pas_mono hs_8 hM.2.2.2.1
  have hmono_12 : ∀ c, c ∈ Y → c ∈ Y_6 := fun c h => hs_8 c ((fun _ h => h) c h)
  have hP : va_P D vwCl (MW cy am Jm Im Rm RJm ++ CT cy ax J (va_up I 10 w_2) (va_up (va_up O 5 w_3) 8 w_4) R RO (LL_5 ++ Y_6)) H := hP
  have hD : va_D (fun q : Nat => s.heap.size ≤ q) (MW cy am Jm Im Rm RJm ++ CT cy ax J (va_up I 10 w_2) (va_up (va_up O 5 w_3) 8 w_4) R RO (LL_5 ++ Y_6)) := hD
  refine lv_pop hx hb dL_law_511 rfl ?_
  refine lv_aload_n hx hb dL_law_512 rfl (lv_at hl 2 rfl) ?_
  refine lv_aload_n hx hb dL_law_513 rfl (lv_at hl 0 rfl) ?_
  refine lv_iload_n hx hb dL_law_514 rfl (lv_at hl 3 rfl) ?_
  refine lv_iconst (v := 1) hx hb dL_law_515 (by decide) ?_
  refine lv_iadd hx hb dL_law_516 ?_
  refine wtop_i (y := nI (6 * k + 1)) (by rw [← nI_add]; rfl) ?_
  refine va_sld hx hb hX hbl hbA hS (vp_in_nI (show 6 * k + 1 < L by omega) (by omega)) dL_law_517 ?_
  refine wtop_i (y := xs (6 * k + 1)) (by rw [nI_clamp (show 6 * k + 1 < 2 ^ 31 by omega)]) ?_
  refine kV_i (As := [.int (xs (6 * k + 1))]) (rest := []) (q0 := 0) ⟨hx, hb, hml, hown, hts⟩ (t_X10_draw l D cy am _ Jm Im Rm RJm (xs (6 * k + 1))  ⟨hMm.1, hMm.2.1, hMm.2.2.1, hMm.2.2.2.1, hMm.2.2.2.2.1, hMm.2.2.2.2.2⟩) (cwV 1 hts gq_X10_draw rfl rfl rfl (by decide +kernel) ⟨Nat.le_of_ble_eq_true rfl, Nat.le_of_ble_eq_true rfl⟩) hK hN hP hD hS hA rfl rfl rfl hl.1 rfl (Nat.le_of_ble_eq_true rfl) dL_law_518 ⟨(show 39 + 17 * k + 7 + 0 ≤ 600000 by omega), (show 18292 + 85786 * k + 34315 + 0 ≤ 7302249 by omega)⟩ (fun r_13 u H locs hw hP hD hS => ?_)
  obtain ⟨w_14, w_15, w_16, w_17, w_18, w_19, w_20, w_21, w_22, w_23, hi_24, rfl⟩ := hw
  have hP : va_P D vwCl (MW cy am (va_up (va_up (va_up (va_up (va_up (va_up (va_up Jm 4 w_14) 5 w_15) 19 w_16) 20 w_17) 21 w_18) 22 w_19) 23 w_20) (va_up (va_up Im 3 w_21) 13 w_22) (va_up Rm 12 w_23) RJm ++ CT cy ax J (va_up I 10 w_2) (va_up (va_up O 5 w_3) 8 w_4) R RO (LL_5 ++ Y_6)) H := hP
  have hD : va_D (fun q : Nat => s.heap.size ≤ q) (MW cy am (va_up (va_up (va_up (va_up (va_up (va_up (va_up Jm 4 w_14) 5 w_15) 19 w_16) 20 w_17) 21 w_18) 22 w_19) 23 w_20) (va_up (va_up Im 3 w_21) 13 w_22) (va_up Rm 12 w_23) RJm ++ CT cy ax J (va_up I 10 w_2) (va_up (va_up O 5 w_3) 8 w_4) R RO (LL_5 ++ Y_6)) := hD
  refine lv_pop hx hb dL_law_521 rfl ?_
  refine lv_goto (tgt := 1035) hx hb dL_law_522 (by decide) ?_
  refine W.widen (k := 39 + 17 * (k + 1)) (n := 18292 + 85786 * (k + 1)) (show 39 + 17 * k + 7 + 0 ≤ _ by omega) (show 18292 + 85786 * k + 34315 + 0 ≤ _ by omega) ?_
  exact kk (va_up (va_up (va_up (va_up (va_up (va_up (va_up Jm 4 w_14) 5 w_15) 19 w_16) 20 w_17) 21 w_18) 22 w_19) 23 w_20) (va_up (va_up Im 3 w_21) 13 w_22) (va_up Rm 12 w_23) RJm J (va_up I 10 w_2) (va_up (va_up O 5 w_3) 8 w_4) R RO LL_5 Y_6 _ _ _ _ _ _ ⟨hMm.1, hi_24, hMm.2.2.1, hMm.2.2.2.1, hMm.2.2.2.2.1, hMm.2.2.2.2.2⟩ ⟨hM.1, hi_10, hi_7, hi_11, hM.2.2.2.2.1, hM.2.2.2.2.2.1, hM.2.2.2.2.2.2.1, hM.2.2.2.2.2.2.2.1, hRO0, hRO1, hRO2, hRO3⟩ hL_9 hQ6 hQ hF hAm hSm (RCf_mono hmono_12 hAc) hSc hG _ _ hP hD hS ls (lv_sub hl [0, 1, 2, 3] rfl)
theorem dL_law_525 : decode cL_law 525 = .ok (.aload_n 1, 1) := by decide +kernel
theorem dL_law_526 : decode cL_law 526 = .ok (.aload_n 0, 1) := by decide +kernel
theorem dL_law_527 : decode cL_law 527 = .ok (.iload_n 3, 1) := by decide +kernel
theorem dL_law_528 : decode cL_law 528 = .ok (.iconst 1, 1) := by decide +kernel
theorem dL_law_529 : decode cL_law 529 = .ok (.iadd, 1) := by decide +kernel
theorem dL_law_530 : decode cL_law 530 = .ok (.iaload, 1) := by decide +kernel
theorem dL_law_531 : decode cL_law 531 = .ok (.invokevirtual 70, 3) := by decide +kernel
theorem dL_law_534 : decode cL_law 534 = .ok (.pop, 1) := by decide +kernel
theorem dL_law_535 : decode cL_law 535 = .ok (.aload_n 2, 1) := by decide +kernel
theorem dL_law_536 : decode cL_law 536 = .ok (.aload_n 0, 1) := by decide +kernel
theorem dL_law_537 : decode cL_law 537 = .ok (.iload_n 3, 1) := by decide +kernel
theorem dL_law_538 : decode cL_law 538 = .ok (.iconst 1, 1) := by decide +kernel
theorem dL_law_539 : decode cL_law 539 = .ok (.iadd, 1) := by decide +kernel
theorem dL_law_540 : decode cL_law 540 = .ok (.iaload, 1) := by decide +kernel
theorem dL_law_541 : decode cL_law 541 = .ok (.invokevirtual 73, 3) := by decide +kernel
theorem dL_law_544 : decode cL_law 544 = .ok (.pop, 1) := by decide +kernel
theorem dL_law_545 : decode cL_law 545 = .ok (.goto 490, 3) := by decide +kernel
set_option maxHeartbeats 4000000 in
set_option maxRecDepth 100000 in
theorem law_13 {p : Program} {e : Env} {s : State} {m : MethodId} {below : List Frame} {meth : Method} {c : Code} (l : Launch) {b L : Nat} {xs : Nat → Int32} {D : va_G} {cy : Nat → ClassId} (C0 : lawCtx p s m meth c b L xs D cy) (ax am : Nat → Nat) (k : Nat) (hk : 6 * k + 6 ≤ L) (hL384 : L ≤ 384) (Jm : Nat → Int64) (Im : Nat → Int32) (Rm : Nat → Nat → Int32) (RJm : Nat → Nat → Int64) (J : Nat → Int64) (I : Nat → Int32) (O : Nat → Option Nat) (R : Nat → Nat → Int32) (RO : Nat → Nat → Option Nat) (LL Y : va_W) (fl : Int64) (S : List Int32) (P : List PE) (Bs Zs : Nat → Int32) (Vs : Nat → Nat → Int32) (hMm : MI Im Rm) (hM : CI ax Y I O RO) (hLk : LOK cy (O 5) LL) (hQ6 : ∀ i, i < 81 → vp_in (R 6 i) 81) (hQ : Q64 (R 11)) (hF : Q64 (R 10)) (hAm : RMf (Jm 0) (Im 1) (Im 12) (Rm 1) (Rm 3) (Rm 4) (RJm 2) fl S P) (hSm : RMs (Rm 8) (Rm 9) (Rm 10) Bs Zs Vs) (hAc : RCf Y (J 6) (O 7) (I 9) (RO 2) fl S P) (hSc : RCs (I 385) (I 386) (R 13) (I 449) (I 450) (R 15) (I 513) (I 514) (R 17) (I 577) (I 578) (R 19) Bs Zs Vs) (hG : gAll fl S P) (kk : LK p l e s m below meth c b D cy ax am k (39 + 17 * (k + 1)) (18292 + 85786 * (k + 1)) 1035) (H : Heap) (locs : List Loc) (hP : va_P D vwCl (MW cy am Jm Im Rm RJm ++ CT cy ax J I O R RO (LL ++ Y)) H) (hD : va_D (fun q : Nat => s.heap.size ≤ q) (MW cy am Jm Im Rm RJm ++ CT cy ax J I O R RO (LL ++ Y))) (hS : va_S (fun q : Nat => s.heap.size ≤ q) s.heap H locs) (ls : Array Slot) (hl : lv_has ls 4 [(0, .ref b), (1, .ref (ax 0)), (2, .ref (am 0)), (3, .int (nI (6 * k)))]) : W p l e room_1 s m #[Value.ref b] below meth c H locs (39 + 17 * k) (18292 + 85786 * k) (lw_Z below #[Value.ref b] s) (F0 m 525 ls []) := by
  obtain ⟨⟨hx, hb, hr, hml, hown, hts, hX, hbl, hlocks, hgv⟩, hK, hN⟩ := C0
  have hown : s.vm.findClass RL = some m.cls := hown
  have hA : ∀ q : Nat, s.heap.size ≤ q → (fun q : Nat => s.heap.size ≤ q) q := fun _ h => h
  have hbA : ¬ (fun q : Nat => s.heap.size ≤ q) b := Nat.not_le.mpr hbl
  have hRO0 := hM.2.2.2.2.2.2.2.2.1
  have hRO1 := hM.2.2.2.2.2.2.2.2.2.1
  have hRO2 := hM.2.2.2.2.2.2.2.2.2.2.1
  have hRO3 := hM.2.2.2.2.2.2.2.2.2.2.2
  refine lv_aload_n hx hb dL_law_525 rfl (lv_at hl 1 rfl) ?_
  refine lv_aload_n hx hb dL_law_526 rfl (lv_at hl 0 rfl) ?_
  refine lv_iload_n hx hb dL_law_527 rfl (lv_at hl 3 rfl) ?_
  refine lv_iconst (v := 1) hx hb dL_law_528 (by decide) ?_
  refine lv_iadd hx hb dL_law_529 ?_
  refine wtop_i (y := nI (6 * k + 1)) (by rw [← nI_add]; rfl) ?_
  refine va_sld hx hb hX hbl hbA hS (vp_in_nI (show 6 * k + 1 < L by omega) (by omega)) dL_law_530 ?_
  refine wtop_i (y := xs (6 * k + 1)) (by rw [nI_clamp (show 6 * k + 1 < 2 ^ 31 by omega)]) ?_
  refine kX_i (As := [.int (xs (6 * k + 1))]) (rest := []) (q0 := 0) ⟨hx, hb, hml, hown, hts⟩ (t_X9_partner l D cy ax _ J I O R RO LL Y (xs (6 * k + 1))  ⟨hM.1, hM.2.1, hM.2.2.1, hM.2.2.2.1, hM.2.2.2.2.1, hM.2.2.2.2.2.1, hM.2.2.2.2.2.2.1, hM.2.2.2.2.2.2.2.1, hRO0, hRO1, hRO2, hRO3⟩ ) (cwV 1 hts gq_X9_partner rfl rfl rfl (by decide +kernel) ⟨Nat.le_of_ble_eq_true rfl, Nat.le_of_ble_eq_true rfl⟩) hK hN hP hD hS hA rfl rfl rfl hl.1 rfl (Nat.le_of_ble_eq_true rfl) dL_law_531 ⟨(show 39 + 17 * k + 0 ≤ 600000 by omega), (show 18292 + 85786 * k + 0 ≤ 7302249 by omega)⟩ (fun r_1 u H locs hw hP hD hS => ?_)
  obtain ⟨w_2, w_3, hi_4, rfl⟩ := hw
  have hP : va_P D vwCl (MW cy am Jm Im Rm RJm ++ CT cy ax J (va_up I 10 w_2) (va_up O 8 w_3) R RO (LL ++ Y)) H := hP
  have hD : va_D (fun q : Nat => s.heap.size ≤ q) (MW cy am Jm Im Rm RJm ++ CT cy ax J (va_up I 10 w_2) (va_up O 8 w_3) R RO (LL ++ Y)) := hD
  refine lv_pop hx hb dL_law_534 rfl ?_
  refine lv_aload_n hx hb dL_law_535 rfl (lv_at hl 2 rfl) ?_
  refine lv_aload_n hx hb dL_law_536 rfl (lv_at hl 0 rfl) ?_
  refine lv_iload_n hx hb dL_law_537 rfl (lv_at hl 3 rfl) ?_
  refine lv_iconst (v := 1) hx hb dL_law_538 (by decide) ?_
  refine lv_iadd hx hb dL_law_539 ?_
  refine wtop_i (y := nI (6 * k + 1)) (by rw [← nI_add]; rfl) ?_
  refine va_sld hx hb hX hbl hbA hS (vp_in_nI (show 6 * k + 1 < L by omega) (by omega)) dL_law_540 ?_
  refine wtop_i (y := xs (6 * k + 1)) (by rw [nI_clamp (show 6 * k + 1 < 2 ^ 31 by omega)]) ?_
  refine kV_i (As := [.int (xs (6 * k + 1))]) (rest := []) (q0 := 0) ⟨hx, hb, hml, hown, hts⟩ (t_X10_partner l D cy am _ Jm Im Rm RJm (xs (6 * k + 1))  ⟨hMm.1, hMm.2.1, hMm.2.2.1, hMm.2.2.2.1, hMm.2.2.2.2.1, hMm.2.2.2.2.2⟩) (cwV 1 hts gq_X10_partner rfl rfl rfl (by decide +kernel) ⟨Nat.le_of_ble_eq_true rfl, Nat.le_of_ble_eq_true rfl⟩) hK hN hP hD hS hA rfl rfl rfl hl.1 rfl (Nat.le_of_ble_eq_true rfl) dL_law_541 ⟨(show 39 + 17 * k + 0 + 0 ≤ 600000 by omega), (show 18292 + 85786 * k + 0 + 0 ≤ 7302249 by omega)⟩ (fun r_5 u H locs hw hP hD hS => ?_)
  obtain ⟨w_6, -, rfl⟩ := hw
  have hP : va_P D vwCl (MW cy am Jm (va_up Im 13 w_6) Rm RJm ++ CT cy ax J (va_up I 10 w_2) (va_up O 8 w_3) R RO (LL ++ Y)) H := hP
  have hD : va_D (fun q : Nat => s.heap.size ≤ q) (MW cy am Jm (va_up Im 13 w_6) Rm RJm ++ CT cy ax J (va_up I 10 w_2) (va_up O 8 w_3) R RO (LL ++ Y)) := hD
  refine lv_pop hx hb dL_law_544 rfl ?_
  refine lv_goto (tgt := 1035) hx hb dL_law_545 (by decide) ?_
  refine W.widen (k := 39 + 17 * (k + 1)) (n := 18292 + 85786 * (k + 1)) (show 39 + 17 * k + 0 + 0 ≤ _ by omega) (show 18292 + 85786 * k + 0 + 0 ≤ _ by omega) ?_
  exact kk Jm (va_up Im 13 w_6) Rm RJm J (va_up I 10 w_2) (va_up O 8 w_3) R RO LL Y _ _ _ _ _ _ ⟨hMm.1, hMm.2.1, hMm.2.2.1, hMm.2.2.2.1, hMm.2.2.2.2.1, hMm.2.2.2.2.2⟩ ⟨hM.1, hM.2.1, hi_4, hM.2.2.2.1, hM.2.2.2.2.1, hM.2.2.2.2.2.1, hM.2.2.2.2.2.2.1, hM.2.2.2.2.2.2.2.1, hRO0, hRO1, hRO2, hRO3⟩ hLk hQ6 hQ hF hAm hSm hAc hSc hG _ _ hP hD hS ls (lv_sub hl [0, 1, 2, 3] rfl)
theorem dL_law_548 : decode cL_law 548 = .ok (.aload_n 1, 1) := by decide +kernel
theorem dL_law_549 : decode cL_law 549 = .ok (.invokevirtual 74, 3) := by decide +kernel
theorem dL_law_552 : decode cL_law 552 = .ok (.pop, 1) := by decide +kernel
theorem dL_law_553 : decode cL_law 553 = .ok (.aload_n 2, 1) := by decide +kernel
theorem dL_law_554 : decode cL_law 554 = .ok (.invokevirtual 77, 3) := by decide +kernel
theorem dL_law_557 : decode cL_law 557 = .ok (.pop, 1) := by decide +kernel
theorem dL_law_558 : decode cL_law 558 = .ok (.goto 477, 3) := by decide +kernel
set_option maxHeartbeats 4000000 in
set_option maxRecDepth 100000 in
theorem law_14 {p : Program} {e : Env} {s : State} {m : MethodId} {below : List Frame} {meth : Method} {c : Code} (l : Launch) {b L : Nat} {xs : Nat → Int32} {D : va_G} {cy : Nat → ClassId} (C0 : lawCtx p s m meth c b L xs D cy) (ax am : Nat → Nat) (k : Nat) (hk : 6 * k + 6 ≤ L) (hL384 : L ≤ 384) (Jm : Nat → Int64) (Im : Nat → Int32) (Rm : Nat → Nat → Int32) (RJm : Nat → Nat → Int64) (J : Nat → Int64) (I : Nat → Int32) (O : Nat → Option Nat) (R : Nat → Nat → Int32) (RO : Nat → Nat → Option Nat) (LL Y : va_W) (fl : Int64) (S : List Int32) (P : List PE) (Bs Zs : Nat → Int32) (Vs : Nat → Nat → Int32) (hMm : MI Im Rm) (hM : CI ax Y I O RO) (hLk : LOK cy (O 5) LL) (hQ6 : ∀ i, i < 81 → vp_in (R 6 i) 81) (hQ : Q64 (R 11)) (hF : Q64 (R 10)) (hAm : RMf (Jm 0) (Im 1) (Im 12) (Rm 1) (Rm 3) (Rm 4) (RJm 2) fl S P) (hSm : RMs (Rm 8) (Rm 9) (Rm 10) Bs Zs Vs) (hAc : RCf Y (J 6) (O 7) (I 9) (RO 2) fl S P) (hSc : RCs (I 385) (I 386) (R 13) (I 449) (I 450) (R 15) (I 513) (I 514) (R 17) (I 577) (I 578) (R 19) Bs Zs Vs) (hG : gAll fl S P) (kk : LK p l e s m below meth c b D cy ax am k (39 + 17 * (k + 1)) (18292 + 85786 * (k + 1)) 1035) (H : Heap) (locs : List Loc) (hP : va_P D vwCl (MW cy am Jm Im Rm RJm ++ CT cy ax J I O R RO (LL ++ Y)) H) (hD : va_D (fun q : Nat => s.heap.size ≤ q) (MW cy am Jm Im Rm RJm ++ CT cy ax J I O R RO (LL ++ Y))) (hS : va_S (fun q : Nat => s.heap.size ≤ q) s.heap H locs) (ls : Array Slot) (hl : lv_has ls 4 [(0, .ref b), (1, .ref (ax 0)), (2, .ref (am 0)), (3, .int (nI (6 * k)))]) : W p l e room_1 s m #[Value.ref b] below meth c H locs (39 + 17 * k) (18292 + 85786 * k) (lw_Z below #[Value.ref b] s) (F0 m 548 ls []) := by
  obtain ⟨⟨hx, hb, hr, hml, hown, hts, hX, hbl, hlocks, hgv⟩, hK, hN⟩ := C0
  have hown : s.vm.findClass RL = some m.cls := hown
  have hA : ∀ q : Nat, s.heap.size ≤ q → (fun q : Nat => s.heap.size ≤ q) q := fun _ h => h
  have hbA : ¬ (fun q : Nat => s.heap.size ≤ q) b := Nat.not_le.mpr hbl
  have hRO0 := hM.2.2.2.2.2.2.2.2.1
  have hRO1 := hM.2.2.2.2.2.2.2.2.2.1
  have hRO2 := hM.2.2.2.2.2.2.2.2.2.2.1
  have hRO3 := hM.2.2.2.2.2.2.2.2.2.2.2
  refine lv_aload_n hx hb dL_law_548 rfl (lv_at hl 1 rfl) ?_
  refine kX_i (As := []) (rest := []) (q0 := 0) ⟨hx, hb, hml, hown, hts⟩ (t_X9_turns l D cy ax _ J I O R RO LL Y   ⟨hM.1, hM.2.1, hM.2.2.1, hM.2.2.2.1, hM.2.2.2.2.1, hM.2.2.2.2.2.1, hM.2.2.2.2.2.2.1, hM.2.2.2.2.2.2.2.1, hRO0, hRO1, hRO2, hRO3⟩ ) (cwV 0 hts gq_X9_turns rfl rfl rfl (by decide +kernel) ⟨Nat.le_of_ble_eq_true rfl, Nat.le_of_ble_eq_true rfl⟩) hK hN hP hD hS hA rfl rfl rfl hl.1 rfl (Nat.le_of_ble_eq_true rfl) dL_law_549 ⟨(show 39 + 17 * k + 0 ≤ 600000 by omega), (show 18292 + 85786 * k + 0 ≤ 7302249 by omega)⟩ (fun r_1 u H locs hw hP hD hS => ?_)
  obtain ⟨w_2, w_3, w_4, w_5, hi_6, rfl⟩ := hw
  have hP : va_P D vwCl (MW cy am Jm Im Rm RJm ++ CT cy ax (va_up (va_up J 224 w_2) 225 w_3) (va_up I 10 w_4) (va_up O 8 w_5) R RO (LL ++ Y)) H := hP
  have hD : va_D (fun q : Nat => s.heap.size ≤ q) (MW cy am Jm Im Rm RJm ++ CT cy ax (va_up (va_up J 224 w_2) 225 w_3) (va_up I 10 w_4) (va_up O 8 w_5) R RO (LL ++ Y)) := hD
  refine lv_pop hx hb dL_law_552 rfl ?_
  refine lv_aload_n hx hb dL_law_553 rfl (lv_at hl 2 rfl) ?_
  refine kV_i (As := []) (rest := []) (q0 := 0) ⟨hx, hb, hml, hown, hts⟩ (t_X10_turns l D cy am _ Jm Im Rm RJm   ⟨hMm.1, hMm.2.1, hMm.2.2.1, hMm.2.2.2.1, hMm.2.2.2.2.1, hMm.2.2.2.2.2⟩) (cwV 0 hts gq_X10_turns rfl rfl rfl (by decide +kernel) ⟨Nat.le_of_ble_eq_true rfl, Nat.le_of_ble_eq_true rfl⟩) hK hN hP hD hS hA rfl rfl rfl hl.1 rfl (Nat.le_of_ble_eq_true rfl) dL_law_554 ⟨(show 39 + 17 * k + 0 + 0 ≤ 600000 by omega), (show 18292 + 85786 * k + 0 + 0 ≤ 7302249 by omega)⟩ (fun r_7 u H locs hw hP hD hS => ?_)
  obtain ⟨w_8, w_9, w_10, w_11, -, rfl⟩ := hw
  have hP : va_P D vwCl (MW cy am (va_up (va_up (va_up Jm 19 w_8) 20 w_9) 21 w_10) (va_up Im 13 w_11) Rm RJm ++ CT cy ax (va_up (va_up J 224 w_2) 225 w_3) (va_up I 10 w_4) (va_up O 8 w_5) R RO (LL ++ Y)) H := hP
  have hD : va_D (fun q : Nat => s.heap.size ≤ q) (MW cy am (va_up (va_up (va_up Jm 19 w_8) 20 w_9) 21 w_10) (va_up Im 13 w_11) Rm RJm ++ CT cy ax (va_up (va_up J 224 w_2) 225 w_3) (va_up I 10 w_4) (va_up O 8 w_5) R RO (LL ++ Y)) := hD
  refine lv_pop hx hb dL_law_557 rfl ?_
  refine lv_goto (tgt := 1035) hx hb dL_law_558 (by decide) ?_
  refine W.widen (k := 39 + 17 * (k + 1)) (n := 18292 + 85786 * (k + 1)) (show 39 + 17 * k + 0 + 0 ≤ _ by omega) (show 18292 + 85786 * k + 0 + 0 ≤ _ by omega) ?_
  exact kk (va_up (va_up (va_up Jm 19 w_8) 20 w_9) 21 w_10) (va_up Im 13 w_11) Rm RJm (va_up (va_up J 224 w_2) 225 w_3) (va_up I 10 w_4) (va_up O 8 w_5) R RO LL Y _ _ _ _ _ _ ⟨hMm.1, hMm.2.1, hMm.2.2.1, hMm.2.2.2.1, hMm.2.2.2.2.1, hMm.2.2.2.2.2⟩ ⟨hM.1, hM.2.1, hi_6, hM.2.2.2.1, hM.2.2.2.2.1, hM.2.2.2.2.2.1, hM.2.2.2.2.2.2.1, hM.2.2.2.2.2.2.2.1, hRO0, hRO1, hRO2, hRO3⟩ hLk hQ6 hQ hF hAm hSm hAc hSc hG _ _ hP hD hS ls (lv_sub hl [0, 1, 2, 3] rfl)
