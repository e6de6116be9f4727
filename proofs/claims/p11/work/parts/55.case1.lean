theorem dL_law_325 : decode cL_law 325 = .ok (.aload_n 1, 1) := by decide +kernel
theorem dL_law_326 : decode cL_law 326 = .ok (.aload_n 0, 1) := by decide +kernel
theorem dL_law_327 : decode cL_law 327 = .ok (.iload_n 3, 1) := by decide +kernel
theorem dL_law_328 : decode cL_law 328 = .ok (.iconst 1, 1) := by decide +kernel
theorem dL_law_329 : decode cL_law 329 = .ok (.iadd, 1) := by decide +kernel
theorem dL_law_330 : decode cL_law 330 = .ok (.iaload, 1) := by decide +kernel
theorem dL_law_331 : decode cL_law 331 = .ok (.aload_n 0, 1) := by decide +kernel
theorem dL_law_332 : decode cL_law 332 = .ok (.iload_n 3, 1) := by decide +kernel
theorem dL_law_333 : decode cL_law 333 = .ok (.iconst 2, 1) := by decide +kernel
theorem dL_law_334 : decode cL_law 334 = .ok (.iadd, 1) := by decide +kernel
theorem dL_law_335 : decode cL_law 335 = .ok (.iaload, 1) := by decide +kernel
theorem dL_law_336 : decode cL_law 336 = .ok (.invokevirtual 37, 3) := by decide +kernel
theorem dL_law_339 : decode cL_law 339 = .ok (.pop, 1) := by decide +kernel
theorem dL_law_340 : decode cL_law 340 = .ok (.aload_n 2, 1) := by decide +kernel
theorem dL_law_341 : decode cL_law 341 = .ok (.aload_n 0, 1) := by decide +kernel
theorem dL_law_342 : decode cL_law 342 = .ok (.iload_n 3, 1) := by decide +kernel
theorem dL_law_343 : decode cL_law 343 = .ok (.iconst 1, 1) := by decide +kernel
theorem dL_law_344 : decode cL_law 344 = .ok (.iadd, 1) := by decide +kernel
theorem dL_law_345 : decode cL_law 345 = .ok (.iaload, 1) := by decide +kernel
theorem dL_law_346 : decode cL_law 346 = .ok (.aload_n 0, 1) := by decide +kernel
theorem dL_law_347 : decode cL_law 347 = .ok (.iload_n 3, 1) := by decide +kernel
theorem dL_law_348 : decode cL_law 348 = .ok (.iconst 2, 1) := by decide +kernel
theorem dL_law_349 : decode cL_law 349 = .ok (.iadd, 1) := by decide +kernel
theorem dL_law_350 : decode cL_law 350 = .ok (.iaload, 1) := by decide +kernel
theorem dL_law_351 : decode cL_law 351 = .ok (.invokevirtual 40, 3) := by decide +kernel
theorem dL_law_354 : decode cL_law 354 = .ok (.pop, 1) := by decide +kernel
theorem dL_law_355 : decode cL_law 355 = .ok (.goto 680, 3) := by decide +kernel
set_option maxHeartbeats 4000000 in
set_option maxRecDepth 100000 in
theorem law_5 {p : Program} {e : Env} {s : State} {m : MethodId} {below : List Frame} {meth : Method} {c : Code} (l : Launch) {b L : Nat} {xs : Nat → Int32} {D : va_G} {cy : Nat → ClassId} (C0 : lawCtx p s m meth c b L xs D cy) (ax am : Nat → Nat) (k : Nat) (hk : 6 * k + 6 ≤ L) (hL384 : L ≤ 384) (Jm : Nat → Int64) (Im : Nat → Int32) (Rm : Nat → Nat → Int32) (RJm : Nat → Nat → Int64) (J : Nat → Int64) (I : Nat → Int32) (O : Nat → Option Nat) (R : Nat → Nat → Int32) (RO : Nat → Nat → Option Nat) (LL Y : va_W) (fl : Int64) (S : List Int32) (P : List PE) (Bs Zs : Nat → Int32) (Vs : Nat → Nat → Int32) (hMm : MI Im Rm) (hM : CI ax Y I O RO) (hLk : LOK cy (O 5) LL) (hQ6 : ∀ i, i < 81 → vp_in (R 6 i) 81) (hQ : Q64 (R 11)) (hF : Q64 (R 10)) (hAm : RMf (Jm 0) (Im 1) (Im 12) (Rm 1) (Rm 3) (Rm 4) (RJm 2) fl S P) (hSm : RMs (Rm 8) (Rm 9) (Rm 10) Bs Zs Vs) (hAc : RCf Y (J 6) (O 7) (I 9) (RO 2) fl S P) (hSc : RCs (I 385) (I 386) (R 13) (I 449) (I 450) (R 15) (I 513) (I 514) (R 17) (I 577) (I 578) (R 19) Bs Zs Vs) (hG : gAll fl S P) (kk : LK p l e s m below meth c b D cy ax am k (39 + 17 * (k + 1)) (18292 + 85786 * (k + 1)) 1035) (H : Heap) (locs : List Loc) (hP : va_P D vwCl (MW cy am Jm Im Rm RJm ++ CT cy ax J I O R RO (LL ++ Y)) H) (hD : va_D (fun q : Nat => s.heap.size ≤ q) (MW cy am Jm Im Rm RJm ++ CT cy ax J I O R RO (LL ++ Y))) (hS : va_S (fun q : Nat => s.heap.size ≤ q) s.heap H locs) (ls : Array Slot) (hl : lv_has ls 4 [(0, .ref b), (1, .ref (ax 0)), (2, .ref (am 0)), (3, .int (nI (6 * k)))]) : W p l e room_1 s m #[Value.ref b] below meth c H locs (39 + 17 * k) (18292 + 85786 * k) (lw_Z below #[Value.ref b] s) (F0 m 325 ls []) := by
  obtain ⟨⟨hx, hb, hr, hml, hown, hts, hX, hbl, hlocks, hgv⟩, hK, hN⟩ := C0
  have hown : s.vm.findClass RL = some m.cls := hown
  have hA : ∀ q : Nat, s.heap.size ≤ q → (fun q : Nat => s.heap.size ≤ q) q := fun _ h => h
  have hbA : ¬ (fun q : Nat => s.heap.size ≤ q) b := Nat.not_le.mpr hbl
  have hRO0 := hM.2.2.2.2.2.2.2.2.1
  have hRO1 := hM.2.2.2.2.2.2.2.2.2.1
  have hRO2 := hM.2.2.2.2.2.2.2.2.2.2.1
  have hRO3 := hM.2.2.2.2.2.2.2.2.2.2.2
  refine lv_aload_n hx hb dL_law_325 rfl (lv_at hl 1 rfl) ?_
  refine lv_aload_n hx hb dL_law_326 rfl (lv_at hl 0 rfl) ?_
  refine lv_iload_n hx hb dL_law_327 rfl (lv_at hl 3 rfl) ?_
  refine lv_iconst (v := 1) hx hb dL_law_328 (by decide) ?_
  refine lv_iadd hx hb dL_law_329 ?_
  refine wtop_i (y := nI (6 * k + 1)) (by rw [← nI_add]; rfl) ?_
  refine va_sld hx hb hX hbl hbA hS (vp_in_nI (show 6 * k + 1 < L by omega) (by omega)) dL_law_330 ?_
  refine wtop_i (y := xs (6 * k + 1)) (by rw [nI_clamp (show 6 * k + 1 < 2 ^ 31 by omega)]) ?_
  refine lv_aload_n hx hb dL_law_331 rfl (lv_at hl 0 rfl) ?_
  refine lv_iload_n hx hb dL_law_332 rfl (lv_at hl 3 rfl) ?_
  refine lv_iconst (v := 2) hx hb dL_law_333 (by decide) ?_
  refine lv_iadd hx hb dL_law_334 ?_
  refine wtop_i (y := nI (6 * k + 2)) (by rw [← nI_add]; rfl) ?_
  refine va_sld hx hb hX hbl hbA hS (vp_in_nI (show 6 * k + 2 < L by omega) (by omega)) dL_law_335 ?_
  refine wtop_i (y := xs (6 * k + 2)) (by rw [nI_clamp (show 6 * k + 2 < 2 ^ 31 by omega)]) ?_
  refine kX_i (As := [.int (xs (6 * k + 1)), .int (xs (6 * k + 2))]) (rest := []) (q0 := 0) ⟨hx, hb, hml, hown, hts⟩ (x_X9_as l D cy ax _ J I O R RO LL Y (xs (6 * k + 1)) (xs (6 * k + 2)) fl S P hAc ⟨hM.1, hM.2.1, hM.2.2.1, hM.2.2.2.1, hM.2.2.2.2.1, hM.2.2.2.2.2.1, hM.2.2.2.2.2.2.1, hM.2.2.2.2.2.2.2.1, hRO0, hRO1, hRO2, hRO3⟩ ) (cwV 2 hts gq_X9_as rfl rfl rfl (by decide +kernel) ⟨Nat.le_of_ble_eq_true rfl, Nat.le_of_ble_eq_true rfl⟩) hK hN hP hD hS hA rfl rfl rfl hl.1 rfl (Nat.le_of_ble_eq_true rfl) dL_law_336 ⟨(show 39 + 17 * k + 0 ≤ 600000 by omega), (show 18292 + 85786 * k + 0 ≤ 7302249 by omega)⟩ (fun r_1 u H locs hw hP hD hS => ?_)
  obtain ⟨w_2, ⟨rfl, hp_3⟩, rfl⟩ := hw
  have hP : va_P D vwCl (MW cy am Jm Im Rm RJm ++ CT cy ax J (va_up I 10 w_2) O R RO (LL ++ Y)) H := hP
  have hD : va_D (fun q : Nat => s.heap.size ≤ q) (MW cy am Jm Im Rm RJm ++ CT cy ax J (va_up I 10 w_2) O R RO (LL ++ Y)) := hD
  refine lv_pop hx hb dL_law_339 rfl ?_
  refine lv_aload_n hx hb dL_law_340 rfl (lv_at hl 2 rfl) ?_
  refine lv_aload_n hx hb dL_law_341 rfl (lv_at hl 0 rfl) ?_
  refine lv_iload_n hx hb dL_law_342 rfl (lv_at hl 3 rfl) ?_
  refine lv_iconst (v := 1) hx hb dL_law_343 (by decide) ?_
  refine lv_iadd hx hb dL_law_344 ?_
  refine wtop_i (y := nI (6 * k + 1)) (by rw [← nI_add]; rfl) ?_
  refine va_sld hx hb hX hbl hbA hS (vp_in_nI (show 6 * k + 1 < L by omega) (by omega)) dL_law_345 ?_
  refine wtop_i (y := xs (6 * k + 1)) (by rw [nI_clamp (show 6 * k + 1 < 2 ^ 31 by omega)]) ?_
  refine lv_aload_n hx hb dL_law_346 rfl (lv_at hl 0 rfl) ?_
  refine lv_iload_n hx hb dL_law_347 rfl (lv_at hl 3 rfl) ?_
  refine lv_iconst (v := 2) hx hb dL_law_348 (by decide) ?_
  refine lv_iadd hx hb dL_law_349 ?_
  refine wtop_i (y := nI (6 * k + 2)) (by rw [← nI_add]; rfl) ?_
  refine va_sld hx hb hX hbl hbA hS (vp_in_nI (show 6 * k + 2 < L by omega) (by omega)) dL_law_350 ?_
  refine wtop_i (y := xs (6 * k + 2)) (by rw [nI_clamp (show 6 * k + 2 < 2 ^ 31 by omega)]) ?_
  refine kV_i (As := [.int (xs (6 * k + 1)), .int (xs (6 * k + 2))]) (rest := []) (q0 := 0) ⟨hx, hb, hml, hown, hts⟩ (x_X10_as l D cy am _ Jm Im Rm RJm (xs (6 * k + 1)) (xs (6 * k + 2)) fl S P hAm ⟨hMm.1, hMm.2.1, hMm.2.2.1, hMm.2.2.2.1, hMm.2.2.2.2.1, hMm.2.2.2.2.2⟩) (cwV 2 hts gq_X10_as rfl rfl rfl (by decide +kernel) ⟨Nat.le_of_ble_eq_true rfl, Nat.le_of_ble_eq_true rfl⟩) hK hN hP hD hS hA rfl rfl rfl hl.1 rfl (Nat.le_of_ble_eq_true rfl) dL_law_351 ⟨(show 39 + 17 * k + 0 + 0 ≤ 600000 by omega), (show 18292 + 85786 * k + 0 + 0 ≤ 7302249 by omega)⟩ (fun r_4 u H locs hw hP hD hS => ?_)
  obtain ⟨w_5, ⟨rfl, hp_6⟩, rfl⟩ := hw
  have hP : va_P D vwCl (MW cy am Jm (va_up Im 13 w_5) Rm RJm ++ CT cy ax J (va_up I 10 w_2) O R RO (LL ++ Y)) H := hP
  have hD : va_D (fun q : Nat => s.heap.size ≤ q) (MW cy am Jm (va_up Im 13 w_5) Rm RJm ++ CT cy ax J (va_up I 10 w_2) O R RO (LL ++ Y)) := hD
  refine lv_pop hx hb dL_law_354 rfl ?_
  refine lv_goto (tgt := 1035) hx hb dL_law_355 (by decide) ?_
  refine W.widen (k := 39 + 17 * (k + 1)) (n := 18292 + 85786 * (k + 1)) (show 39 + 17 * k + 0 + 0 ≤ _ by omega) (show 18292 + 85786 * k + 0 + 0 ≤ _ by omega) ?_
  exact kk Jm (va_up Im 13 w_5) Rm RJm J (va_up I 10 w_2) O R RO LL Y _ _ _ _ _ _ ⟨hMm.1, hMm.2.1, hMm.2.2.1, hMm.2.2.2.1, hMm.2.2.2.2.1, hMm.2.2.2.2.2⟩ ⟨hM.1, hM.2.1, hM.2.2.1, hM.2.2.2.1, hM.2.2.2.2.1, hM.2.2.2.2.2.1, hM.2.2.2.2.2.2.1, hM.2.2.2.2.2.2.2.1, hRO0, hRO1, hRO2, hRO3⟩ hLk hQ6 hQ hF hp_6 hSm hp_3 hSc hG _ _ hP hD hS ls (lv_sub hl [0, 1, 2, 3] rfl)
theorem dL_law_358 : decode cL_law 358 = .ok (.aload_n 1, 1) := by decide +kernel
theorem dL_law_359 : decode cL_law 359 = .ok (.aload_n 0, 1) := by decide +kernel
theorem dL_law_360 : decode cL_law 360 = .ok (.iload_n 3, 1) := by decide +kernel
theorem dL_law_361 : decode cL_law 361 = .ok (.iconst 1, 1) := by decide +kernel
theorem dL_law_362 : decode cL_law 362 = .ok (.iadd, 1) := by decide +kernel
theorem dL_law_363 : decode cL_law 363 = .ok (.iaload, 1) := by decide +kernel
theorem dL_law_364 : decode cL_law 364 = .ok (.aload_n 0, 1) := by decide +kernel
theorem dL_law_365 : decode cL_law 365 = .ok (.iload_n 3, 1) := by decide +kernel
theorem dL_law_366 : decode cL_law 366 = .ok (.iconst 2, 1) := by decide +kernel
theorem dL_law_367 : decode cL_law 367 = .ok (.iadd, 1) := by decide +kernel
theorem dL_law_368 : decode cL_law 368 = .ok (.iaload, 1) := by decide +kernel
theorem dL_law_369 : decode cL_law 369 = .ok (.invokevirtual 41, 3) := by decide +kernel
theorem dL_law_372 : decode cL_law 372 = .ok (.pop, 1) := by decide +kernel
theorem dL_law_373 : decode cL_law 373 = .ok (.aload_n 2, 1) := by decide +kernel
theorem dL_law_374 : decode cL_law 374 = .ok (.aload_n 0, 1) := by decide +kernel
theorem dL_law_375 : decode cL_law 375 = .ok (.iload_n 3, 1) := by decide +kernel
theorem dL_law_376 : decode cL_law 376 = .ok (.iconst 1, 1) := by decide +kernel
theorem dL_law_377 : decode cL_law 377 = .ok (.iadd, 1) := by decide +kernel
theorem dL_law_378 : decode cL_law 378 = .ok (.iaload, 1) := by decide +kernel
theorem dL_law_379 : decode cL_law 379 = .ok (.aload_n 0, 1) := by decide +kernel
theorem dL_law_380 : decode cL_law 380 = .ok (.iload_n 3, 1) := by decide +kernel
theorem dL_law_381 : decode cL_law 381 = .ok (.iconst 2, 1) := by decide +kernel
theorem dL_law_382 : decode cL_law 382 = .ok (.iadd, 1) := by decide +kernel
theorem dL_law_383 : decode cL_law 383 = .ok (.iaload, 1) := by decide +kernel
theorem dL_law_384 : decode cL_law 384 = .ok (.invokevirtual 44, 3) := by decide +kernel
theorem dL_law_387 : decode cL_law 387 = .ok (.pop, 1) := by decide +kernel
theorem dL_law_388 : decode cL_law 388 = .ok (.goto 647, 3) := by decide +kernel
set_option maxHeartbeats 4000000 in
set_option maxRecDepth 100000 in
theorem law_6 {p : Program} {e : Env} {s : State} {m : MethodId} {below : List Frame} {meth : Method} {c : Code} (l : Launch) {b L : Nat} {xs : Nat → Int32} {D : va_G} {cy : Nat → ClassId} (C0 : lawCtx p s m meth c b L xs D cy) (ax am : Nat → Nat) (k : Nat) (hk : 6 * k + 6 ≤ L) (hL384 : L ≤ 384) (Jm : Nat → Int64) (Im : Nat → Int32) (Rm : Nat → Nat → Int32) (RJm : Nat → Nat → Int64) (J : Nat → Int64) (I : Nat → Int32) (O : Nat → Option Nat) (R : Nat → Nat → Int32) (RO : Nat → Nat → Option Nat) (LL Y : va_W) (fl : Int64) (S : List Int32) (P : List PE) (Bs Zs : Nat → Int32) (Vs : Nat → Nat → Int32) (hMm : MI Im Rm) (hM : CI ax Y I O RO) (hLk : LOK cy (O 5) LL) (hQ6 : ∀ i, i < 81 → vp_in (R 6 i) 81) (hQ : Q64 (R 11)) (hF : Q64 (R 10)) (hAm : RMf (Jm 0) (Im 1) (Im 12) (Rm 1) (Rm 3) (Rm 4) (RJm 2) fl S P) (hSm : RMs (Rm 8) (Rm 9) (Rm 10) Bs Zs Vs) (hAc : RCf Y (J 6) (O 7) (I 9) (RO 2) fl S P) (hSc : RCs (I 385) (I 386) (R 13) (I 449) (I 450) (R 15) (I 513) (I 514) (R 17) (I 577) (I 578) (R 19) Bs Zs Vs) (hG : gAll fl S P) (kk : LK p l e s m below meth c b D cy ax am k (39 + 17 * (k + 1)) (18292 + 85786 * (k + 1)) 1035) (H : Heap) (locs : List Loc) (hP : va_P D vwCl (MW cy am Jm Im Rm RJm ++ CT cy ax J I O R RO (LL ++ Y)) H) (hD : va_D (fun q : Nat => s.heap.size ≤ q) (MW cy am Jm Im Rm RJm ++ CT cy ax J I O R RO (LL ++ Y))) (hS : va_S (fun q : Nat => s.heap.size ≤ q) s.heap H locs) (ls : Array Slot) (hl : lv_has ls 4 [(0, .ref b), (1, .ref (ax 0)), (2, .ref (am 0)), (3, .int (nI (6 * k)))]) : W p l e room_1 s m #[Value.ref b] below meth c H locs (39 + 17 * k) (18292 + 85786 * k) (lw_Z below #[Value.ref b] s) (F0 m 358 ls []) := by
  obtain ⟨⟨hx, hb, hr, hml, hown, hts, hX, hbl, hlocks, hgv⟩, hK, hN⟩ := C0
  have hown : s.vm.findClass RL = some m.cls := hown
  have hA : ∀ q : Nat, s.heap.size ≤ q → (fun q : Nat => s.heap.size ≤ q) q := fun _ h => h
  have hbA : ¬ (fun q : Nat => s.heap.size ≤ q) b := Nat.not_le.mpr hbl
  have hRO0 := hM.2.2.2.2.2.2.2.2.1
  have hRO1 := hM.2.2.2.2.2.2.2.2.2.1
  have hRO2 := hM.2.2.2.2.2.2.2.2.2.2.1
  have hRO3 := hM.2.2.2.2.2.2.2.2.2.2.2
  refine lv_aload_n hx hb dL_law_358 rfl (lv_at hl 1 rfl) ?_
  refine lv_aload_n hx hb dL_law_359 rfl (lv_at hl 0 rfl) ?_
  refine lv_iload_n hx hb dL_law_360 rfl (lv_at hl 3 rfl) ?_
  refine lv_iconst (v := 1) hx hb dL_law_361 (by decide) ?_
  refine lv_iadd hx hb dL_law_362 ?_
  refine wtop_i (y := nI (6 * k + 1)) (by rw [← nI_add]; rfl) ?_
  refine va_sld hx hb hX hbl hbA hS (vp_in_nI (show 6 * k + 1 < L by omega) (by omega)) dL_law_363 ?_
  refine wtop_i (y := xs (6 * k + 1)) (by rw [nI_clamp (show 6 * k + 1 < 2 ^ 31 by omega)]) ?_
  refine lv_aload_n hx hb dL_law_364 rfl (lv_at hl 0 rfl) ?_
  refine lv_iload_n hx hb dL_law_365 rfl (lv_at hl 3 rfl) ?_
  refine lv_iconst (v := 2) hx hb dL_law_366 (by decide) ?_
  refine lv_iadd hx hb dL_law_367 ?_
  refine wtop_i (y := nI (6 * k + 2)) (by rw [← nI_add]; rfl) ?_
  refine va_sld hx hb hX hbl hbA hS (vp_in_nI (show 6 * k + 2 < L by omega) (by omega)) dL_law_368 ?_
  refine wtop_i (y := xs (6 * k + 2)) (by rw [nI_clamp (show 6 * k + 2 < 2 ^ 31 by omega)]) ?_
  refine kX_i (As := [.int (xs (6 * k + 1)), .int (xs (6 * k + 2))]) (rest := []) (q0 := 0) ⟨hx, hb, hml, hown, hts⟩ (t_X9_told l D cy ax _ J I O R RO LL Y (xs (6 * k + 1)) (xs (6 * k + 2))  ⟨hM.1, hM.2.1, hM.2.2.1, hM.2.2.2.1, hM.2.2.2.2.1, hM.2.2.2.2.2.1, hM.2.2.2.2.2.2.1, hM.2.2.2.2.2.2.2.1, hRO0, hRO1, hRO2, hRO3⟩ ) (cwV 2 hts gq_X9_told rfl rfl rfl (by decide +kernel) ⟨Nat.le_of_ble_eq_true rfl, Nat.le_of_ble_eq_true rfl⟩) hK hN hP hD hS hA rfl rfl rfl hl.1 rfl (Nat.le_of_ble_eq_true rfl) dL_law_369 ⟨(show 39 + 17 * k + 0 ≤ 600000 by omega), (show 18292 + 85786 * k + 0 ≤ 7302249 by omega)⟩ (fun r_1 u H locs hw hP hD hS => ?_)
  obtain ⟨w_2, w_3, hi_4, rfl⟩ := hw
  have hP : va_P D vwCl (MW cy am Jm Im Rm RJm ++ CT cy ax J (va_up I 10 w_2) (va_up O 8 w_3) R RO (LL ++ Y)) H := hP
  have hD : va_D (fun q : Nat => s.heap.size ≤ q) (MW cy am Jm Im Rm RJm ++ CT cy ax J (va_up I 10 w_2) (va_up O 8 w_3) R RO (LL ++ Y)) := hD
  refine lv_pop hx hb dL_law_372 rfl ?_
  refine lv_aload_n hx hb dL_law_373 rfl (lv_at hl 2 rfl) ?_
  refine lv_aload_n hx hb dL_law_374 rfl (lv_at hl 0 rfl) ?_
  refine lv_iload_n hx hb dL_law_375 rfl (lv_at hl 3 rfl) ?_
  refine lv_iconst (v := 1) hx hb dL_law_376 (by decide) ?_
  refine lv_iadd hx hb dL_law_377 ?_
  refine wtop_i (y := nI (6 * k + 1)) (by rw [← nI_add]; rfl) ?_
  refine va_sld hx hb hX hbl hbA hS (vp_in_nI (show 6 * k + 1 < L by omega) (by omega)) dL_law_378 ?_
  refine wtop_i (y := xs (6 * k + 1)) (by rw [nI_clamp (show 6 * k + 1 < 2 ^ 31 by omega)]) ?_
  refine lv_aload_n hx hb dL_law_379 rfl (lv_at hl 0 rfl) ?_
  refine lv_iload_n hx hb dL_law_380 rfl (lv_at hl 3 rfl) ?_
  refine lv_iconst (v := 2) hx hb dL_law_381 (by decide) ?_
  refine lv_iadd hx hb dL_law_382 ?_
  refine wtop_i (y := nI (6 * k + 2)) (by rw [← nI_add]; rfl) ?_
  refine va_sld hx hb hX hbl hbA hS (vp_in_nI (show 6 * k + 2 < L by omega) (by omega)) dL_law_383 ?_
  refine wtop_i (y := xs (6 * k + 2)) (by rw [nI_clamp (show 6 * k + 2 < 2 ^ 31 by omega)]) ?_
  refine kV_i (As := [.int (xs (6 * k + 1)), .int (xs (6 * k + 2))]) (rest := []) (q0 := 0) ⟨hx, hb, hml, hown, hts⟩ (t_X10_told l D cy am _ Jm Im Rm RJm (xs (6 * k + 1)) (xs (6 * k + 2))  ⟨hMm.1, hMm.2.1, hMm.2.2.1, hMm.2.2.2.1, hMm.2.2.2.2.1, hMm.2.2.2.2.2⟩) (cwV 2 hts gq_X10_told rfl rfl rfl (by decide +kernel) ⟨Nat.le_of_ble_eq_true rfl, Nat.le_of_ble_eq_true rfl⟩) hK hN hP hD hS hA rfl rfl rfl hl.1 rfl (Nat.le_of_ble_eq_true rfl) dL_law_384 ⟨(show 39 + 17 * k + 0 + 0 ≤ 600000 by omega), (show 18292 + 85786 * k + 0 + 0 ≤ 7302249 by omega)⟩ (fun r_5 u H locs hw hP hD hS => ?_)
  obtain ⟨w_6, -, rfl⟩ := hw
  have hP : va_P D vwCl (MW cy am Jm (va_up Im 13 w_6) Rm RJm ++ CT cy ax J (va_up I 10 w_2) (va_up O 8 w_3) R RO (LL ++ Y)) H := hP
  have hD : va_D (fun q : Nat => s.heap.size ≤ q) (MW cy am Jm (va_up Im 13 w_6) Rm RJm ++ CT cy ax J (va_up I 10 w_2) (va_up O 8 w_3) R RO (LL ++ Y)) := hD
  refine lv_pop hx hb dL_law_387 rfl ?_
  refine lv_goto (tgt := 1035) hx hb dL_law_388 (by decide) ?_
  refine W.widen (k := 39 + 17 * (k + 1)) (n := 18292 + 85786 * (k + 1)) (show 39 + 17 * k + 0 + 0 ≤ _ by omega) (show 18292 + 85786 * k + 0 + 0 ≤ _ by omega) ?_
  exact kk Jm (va_up Im 13 w_6) Rm RJm J (va_up I 10 w_2) (va_up O 8 w_3) R RO LL Y _ _ _ _ _ _ ⟨hMm.1, hMm.2.1, hMm.2.2.1, hMm.2.2.2.1, hMm.2.2.2.2.1, hMm.2.2.2.2.2⟩ ⟨hM.1, hM.2.1, hi_4, hM.2.2.2.1, hM.2.2.2.2.1, hM.2.2.2.2.2.1, hM.2.2.2.2.2.2.1, hM.2.2.2.2.2.2.2.1, hRO0, hRO1, hRO2, hRO3⟩ hLk hQ6 hQ hF hAm hSm hAc hSc hG _ _ hP hD hS ls (lv_sub hl [0, 1, 2, 3] rfl)
theorem dL_law_391 : decode cL_law 391 = .ok (.aload_n 1, 1) := by decide +kernel
theorem dL_law_392 : decode cL_law 392 = .ok (.invokevirtual 45, 3) := by decide +kernel
theorem dL_law_395 : decode cL_law 395 = .ok (.pop, 1) := by decide +kernel
theorem dL_law_396 : decode cL_law 396 = .ok (.aload_n 2, 1) := by decide +kernel
theorem dL_law_397 : decode cL_law 397 = .ok (.invokevirtual 48, 3) := by decide +kernel
theorem dL_law_400 : decode cL_law 400 = .ok (.pop, 1) := by decide +kernel
theorem dL_law_401 : decode cL_law 401 = .ok (.goto 634, 3) := by decide +kernel
set_option maxHeartbeats 4000000 in
set_option maxRecDepth 100000 in
theorem law_7 {p : Program} {e : Env} {s : State} {m : MethodId} {below : List Frame} {meth : Method} {c : Code} (l : Launch) {b L : Nat} {xs : Nat → Int32} {D : va_G} {cy : Nat → ClassId} (C0 : lawCtx p s m meth c b L xs D cy) (ax am : Nat → Nat) (k : Nat) (hk : 6 * k + 6 ≤ L) (hL384 : L ≤ 384) (Jm : Nat → Int64) (Im : Nat → Int32) (Rm : Nat → Nat → Int32) (RJm : Nat → Nat → Int64) (J : Nat → Int64) (I : Nat → Int32) (O : Nat → Option Nat) (R : Nat → Nat → Int32) (RO : Nat → Nat → Option Nat) (LL Y : va_W) (fl : Int64) (S : List Int32) (P : List PE) (Bs Zs : Nat → Int32) (Vs : Nat → Nat → Int32) (hMm : MI Im Rm) (hM : CI ax Y I O RO) (hLk : LOK cy (O 5) LL) (hQ6 : ∀ i, i < 81 → vp_in (R 6 i) 81) (hQ : Q64 (R 11)) (hF : Q64 (R 10)) (hAm : RMf (Jm 0) (Im 1) (Im 12) (Rm 1) (Rm 3) (Rm 4) (RJm 2) fl S P) (hSm : RMs (Rm 8) (Rm 9) (Rm 10) Bs Zs Vs) (hAc : RCf Y (J 6) (O 7) (I 9) (RO 2) fl S P) (hSc : RCs (I 385) (I 386) (R 13) (I 449) (I 450) (R 15) (I 513) (I 514) (R 17) (I 577) (I 578) (R 19) Bs Zs Vs) (hG : gAll fl S P) (kk : LK p l e s m below meth c b D cy ax am k (39 + 17 * (k + 1)) (18292 + 85786 * (k + 1)) 1035) (H : Heap) (locs : List Loc) (hP : va_P D vwCl (MW cy am Jm Im Rm RJm ++ CT cy ax J I O R RO (LL ++ Y)) H) (hD : va_D (fun q : Nat => s.heap.size ≤ q) (MW cy am Jm Im Rm RJm ++ CT cy ax J I O R RO (LL ++ Y))) (hS : va_S (fun q : Nat => s.heap.size ≤ q) s.heap H locs) (ls : Array Slot) (hl : lv_has ls 4 [(0, .ref b), (1, .ref (ax 0)), (2, .ref (am 0)), (3, .int (nI (6 * k)))]) : W p l e room_1 s m #[Value.ref b] below meth c H locs (39 + 17 * k) (18292 + 85786 * k) (lw_Z below #[Value.ref b] s) (F0 m 391 ls []) := by
  obtain ⟨⟨hx, hb, hr, hml, hown, hts, hX, hbl, hlocks, hgv⟩, hK, hN⟩ := C0
  have hown : s.vm.findClass RL = some m.cls := hown
  have hA : ∀ q : Nat, s.heap.size ≤ q → (fun q : Nat => s.heap.size ≤ q) q := fun _ h => h
  have hbA : ¬ (fun q : Nat => s.heap.size ≤ q) b := Nat.not_le.mpr hbl
  have hRO0 := hM.2.2.2.2.2.2.2.2.1
  have hRO1 := hM.2.2.2.2.2.2.2.2.2.1
  have hRO2 := hM.2.2.2.2.2.2.2.2.2.2.1
  have hRO3 := hM.2.2.2.2.2.2.2.2.2.2.2
  refine lv_aload_n hx hb dL_law_391 rfl (lv_at hl 1 rfl) ?_
  refine kX_i (As := []) (rest := []) (q0 := 0) ⟨hx, hb, hml, hown, hts⟩ (x_X9_count l D cy ax _ J I O R RO LL Y  fl S P hAc ⟨hM.1, hM.2.1, hM.2.2.1, hM.2.2.2.1, hM.2.2.2.2.1, hM.2.2.2.2.2.1, hM.2.2.2.2.2.2.1, hM.2.2.2.2.2.2.2.1, hRO0, hRO1, hRO2, hRO3⟩ hLk) (cwV 0 hts gq_X9_count rfl rfl rfl (by decide +kernel) ⟨Nat.le_of_ble_eq_true rfl, Nat.le_of_ble_eq_true rfl⟩) hK hN hP hD hS hA rfl rfl rfl hl.1 rfl (Nat.le_of_ble_eq_true rfl) dL_law_392 ⟨(show 39 + 17 * k + 3 ≤ 600000 by omega), (show 18292 + 85786 * k + 17156 ≤ 7302249 by omega)⟩ (fun r_1 u H locs hw hP hD hS => ?_)
  obtain ⟨w_2, LL_3, ⟨rfl, hL_4⟩, rfl⟩ := hw
  have hP : va_P D vwCl (MW cy am Jm Im Rm RJm ++ CT cy ax J I (va_up O 5 w_2) R RO (LL_3 ++ Y)) H := hP
  have hD : va_D (fun q : Nat => s.heap.size ≤ q) (MW cy am Jm Im Rm RJm ++ CT cy ax J I (va_up O 5 w_2) R RO (LL_3 ++ Y)) := hD
  refine lv_pop hx hb dL_law_395 rfl ?_
  refine lv_aload_n hx hb dL_law_396 rfl (lv_at hl 2 rfl) ?_
  refine kV_i (As := []) (rest := []) (q0 := 0) ⟨hx, hb, hml, hown, hts⟩ (x_X10_count l D cy am _ Jm Im Rm RJm  fl S P hAm hG.1 ⟨hMm.1, hMm.2.1, hMm.2.2.1, hMm.2.2.2.1, hMm.2.2.2.2.1, hMm.2.2.2.2.2⟩) (cwV 0 hts gq_X10_count rfl rfl rfl (by decide +kernel) ⟨Nat.le_of_ble_eq_true rfl, Nat.le_of_ble_eq_true rfl⟩) hK hN hP hD hS hA rfl rfl rfl hl.1 rfl (Nat.le_of_ble_eq_true rfl) dL_law_397 ⟨(show 39 + 17 * k + 3 + 0 ≤ 600000 by omega), (show 18292 + 85786 * k + 17156 + 0 ≤ 7302249 by omega)⟩ (fun r_5 u H locs hw hP hD hS => ?_)
  obtain ⟨w_6, w_7, w_8, w_9, rfl, rfl⟩ := hw
  have hP : va_P D vwCl (MW cy am (va_up (va_up (va_up Jm 19 w_6) 20 w_7) 21 w_8) Im (va_up Rm 12 w_9) RJm ++ CT cy ax J I (va_up O 5 w_2) R RO (LL_3 ++ Y)) H := hP
  have hD : va_D (fun q : Nat => s.heap.size ≤ q) (MW cy am (va_up (va_up (va_up Jm 19 w_6) 20 w_7) 21 w_8) Im (va_up Rm 12 w_9) RJm ++ CT cy ax J I (va_up O 5 w_2) R RO (LL_3 ++ Y)) := hD
  refine lv_pop hx hb dL_law_400 rfl ?_
  refine lv_goto (tgt := 1035) hx hb dL_law_401 (by decide) ?_
  refine W.widen (k := 39 + 17 * (k + 1)) (n := 18292 + 85786 * (k + 1)) (show 39 + 17 * k + 3 + 0 ≤ _ by omega) (show 18292 + 85786 * k + 17156 + 0 ≤ _ by omega) ?_
  exact kk (va_up (va_up (va_up Jm 19 w_6) 20 w_7) 21 w_8) Im (va_up Rm 12 w_9) RJm J I (va_up O 5 w_2) R RO LL_3 Y _ _ _ _ _ _ ⟨hMm.1, hMm.2.1, hMm.2.2.1, hMm.2.2.2.1, hMm.2.2.2.2.1, hMm.2.2.2.2.2⟩ ⟨hM.1, hM.2.1, hM.2.2.1, hM.2.2.2.1, hM.2.2.2.2.1, hM.2.2.2.2.2.1, hM.2.2.2.2.2.2.1, hM.2.2.2.2.2.2.2.1, hRO0, hRO1, hRO2, hRO3⟩ hL_4 hQ6 hQ hF hAm hSm hAc hSc hG _ _ hP hD hS ls (lv_sub hl [0, 1, 2, 3] rfl)
theorem dL_law_404 : decode cL_law 404 = .ok (.aload_n 1, 1) := by decide +kernel
theorem dL_law_405 : decode cL_law 405 = .ok (.aload_n 0, 1) := by decide +kernel
theorem dL_law_406 : decode cL_law 406 = .ok (.iload_n 3, 1) := by decide +kernel
theorem dL_law_407 : decode cL_law 407 = .ok (.iconst 1, 1) := by decide +kernel
theorem dL_law_408 : decode cL_law 408 = .ok (.iadd, 1) := by decide +kernel
theorem dL_law_409 : decode cL_law 409 = .ok (.iaload, 1) := by decide +kernel
theorem dL_law_410 : decode cL_law 410 = .ok (.aload_n 0, 1) := by decide +kernel
theorem dL_law_411 : decode cL_law 411 = .ok (.iload_n 3, 1) := by decide +kernel
theorem dL_law_412 : decode cL_law 412 = .ok (.iconst 2, 1) := by decide +kernel
theorem dL_law_413 : decode cL_law 413 = .ok (.iadd, 1) := by decide +kernel
theorem dL_law_414 : decode cL_law 414 = .ok (.iaload, 1) := by decide +kernel
theorem dL_law_415 : decode cL_law 415 = .ok (.ifCond .eq 7, 3) := by decide +kernel
theorem dL_law_422 : decode cL_law 422 = .ok (.iconst 0, 1) := by decide +kernel
theorem dL_law_423 : decode cL_law 423 = .ok (.invokevirtual 49, 3) := by decide +kernel
theorem dL_law_426 : decode cL_law 426 = .ok (.pop, 1) := by decide +kernel
theorem dL_law_427 : decode cL_law 427 = .ok (.aload_n 2, 1) := by decide +kernel
theorem dL_law_428 : decode cL_law 428 = .ok (.aload_n 0, 1) := by decide +kernel
theorem dL_law_429 : decode cL_law 429 = .ok (.iload_n 3, 1) := by decide +kernel
theorem dL_law_430 : decode cL_law 430 = .ok (.iconst 1, 1) := by decide +kernel
theorem dL_law_431 : decode cL_law 431 = .ok (.iadd, 1) := by decide +kernel
theorem dL_law_432 : decode cL_law 432 = .ok (.iaload, 1) := by decide +kernel
theorem dL_law_433 : decode cL_law 433 = .ok (.aload_n 0, 1) := by decide +kernel
theorem dL_law_434 : decode cL_law 434 = .ok (.iload_n 3, 1) := by decide +kernel
theorem dL_law_435 : decode cL_law 435 = .ok (.iconst 2, 1) := by decide +kernel
theorem dL_law_436 : decode cL_law 436 = .ok (.iadd, 1) := by decide +kernel
theorem dL_law_437 : decode cL_law 437 = .ok (.iaload, 1) := by decide +kernel
theorem dL_law_438 : decode cL_law 438 = .ok (.ifCond .eq 7, 3) := by decide +kernel
theorem dL_law_445 : decode cL_law 445 = .ok (.iconst 0, 1) := by decide +kernel
theorem dL_law_446 : decode cL_law 446 = .ok (.invokevirtual 53, 3) := by decide +kernel
theorem dL_law_449 : decode cL_law 449 = .ok (.pop, 1) := by decide +kernel
theorem dL_law_450 : decode cL_law 450 = .ok (.goto 585, 3) := by decide +kernel
theorem dL_law_418 : decode cL_law 418 = .ok (.iconst 1, 1) := by decide +kernel
theorem dL_law_419 : decode cL_law 419 = .ok (.goto 4, 3) := by decide +kernel
theorem dL_law_441 : decode cL_law 441 = .ok (.iconst 1, 1) := by decide +kernel
theorem dL_law_442 : decode cL_law 442 = .ok (.goto 4, 3) := by decide +kernel
set_option maxHeartbeats 4000000 in
set_option maxRecDepth 100000 in
theorem law_8 {p : Program} {e : Env} {s : State} {m : MethodId} {below : List Frame} {meth : Method} {c : Code} (l : Launch) {b L : Nat} {xs : Nat → Int32} {D : va_G} {cy : Nat → ClassId} (C0 : lawCtx p s m meth c b L xs D cy) (ax am : Nat → Nat) (k : Nat) (hk : 6 * k + 6 ≤ L) (hL384 : L ≤ 384) (Jm : Nat → Int64) (Im : Nat → Int32) (Rm : Nat → Nat → Int32) (RJm : Nat → Nat → Int64) (J : Nat → Int64) (I : Nat → Int32) (O : Nat → Option Nat) (R : Nat → Nat → Int32) (RO : Nat → Nat → Option Nat) (LL Y : va_W) (fl : Int64) (S : List Int32) (P : List PE) (Bs Zs : Nat → Int32) (Vs : Nat → Nat → Int32) (hMm : MI Im Rm) (hM : CI ax Y I O RO) (hLk : LOK cy (O 5) LL) (hQ6 : ∀ i, i < 81 → vp_in (R 6 i) 81) (hQ : Q64 (R 11)) (hF : Q64 (R 10)) (hAm : RMf (Jm 0) (Im 1) (Im 12) (Rm 1) (Rm 3) (Rm 4) (RJm 2) fl S P) (hSm : RMs (Rm 8) (Rm 9) (Rm 10) Bs Zs Vs) (hAc : RCf Y (J 6) (O 7) (I 9) (RO 2) fl S P) (hSc : RCs (I 385) (I 386) (R 13) (I 449) (I 450) (R 15) (I 513) (I 514) (R 17) (I 577) (I 578) (R 19) Bs Zs Vs) (hG : gAll fl S P) (kk : LK p l e s m below meth c b D cy ax am k (39 + 17 * (k + 1)) (18292 + 85786 * (k + 1)) 1035) (H : Heap) (locs : List Loc) (hP : va_P D vwCl (MW cy am Jm Im Rm RJm ++ CT cy ax J I O R RO (LL ++ Y)) H) (hD : va_D (fun q : Nat => s.heap.size ≤ q) (MW cy am Jm Im Rm RJm ++ CT cy ax J I O R RO (LL ++ Y))) (hS : va_S (fun q : Nat => s.heap.size ≤ q) s.heap H locs) (ls : Array Slot) (hl : lv_has ls 4 [(0, .ref b), (1, .ref (ax 0)), (2, .ref (am 0)), (3, .int (nI (6 * k)))]) : W p l e room_1 s m #[Value.ref b] below meth c H locs (39 + 17 * k) (18292 + 85786 * k) (lw_Z below #[Value.ref b] s) (F0 m 404 ls []) := by
  obtain ⟨⟨hx, hb, hr, hml, hown, hts, hX, hbl, hlocks, hgv⟩, hK, hN⟩ := C0
  have hown : s.vm.findClass RL = some m.cls := hown
  have hA : ∀ q : Nat, s.heap.size ≤ q → (fun q : Nat => s.heap.size ≤ q) q := fun _ h => h
  have hbA : ¬ (fun q : Nat => s.heap.size ≤ q) b := Nat.not_le.mpr hbl
  have hRO0 := hM.2.2.2.2.2.2.2.2.1
  have hRO1 := hM.2.2.2.2.2.2.2.2.2.1
  have hRO2 := hM.2.2.2.2.2.2.2.2.2.2.1
  have hRO3 := hM.2.2.2.2.2.2.2.2.2.2.2
  refine lv_aload_n hx hb dL_law_404 rfl (lv_at hl 1 rfl) ?_
  refine lv_aload_n hx hb dL_law_405 rfl (lv_at hl 0 rfl) ?_
  refine lv_iload_n hx hb dL_law_406 rfl (lv_at hl 3 rfl) ?_
  refine lv_iconst (v := 1) hx hb dL_law_407 (by decide) ?_
  refine lv_iadd hx hb dL_law_408 ?_
  refine wtop_i (y := nI (6 * k + 1)) (by rw [← nI_add]; rfl) ?_
  refine va_sld hx hb hX hbl hbA hS (vp_in_nI (show 6 * k + 1 < L by omega) (by omega)) dL_law_409 ?_
  refine wtop_i (y := xs (6 * k + 1)) (by rw [nI_clamp (show 6 * k + 1 < 2 ^ 31 by omega)]) ?_
  refine lv_aload_n hx hb dL_law_410 rfl (lv_at hl 0 rfl) ?_
  refine lv_iload_n hx hb dL_law_411 rfl (lv_at hl 3 rfl) ?_
  refine lv_iconst (v := 2) hx hb dL_law_412 (by decide) ?_
  refine lv_iadd hx hb dL_law_413 ?_
  refine wtop_i (y := nI (6 * k + 2)) (by rw [← nI_add]; rfl) ?_
  refine va_sld hx hb hX hbl hbA hS (vp_in_nI (show 6 * k + 2 < L by omega) (by omega)) dL_law_414 ?_
  refine wtop_i (y := xs (6 * k + 2)) (by rw [nI_clamp (show 6 * k + 2 < 2 ^ 31 by omega)]) ?_
  refine lv_if_eq (tgt := 422) hx hb dL_law_415 (by decide) (fun c_1 => ?_) (fun c_1 => ?_)
  · refine lv_iconst (v := 0) hx hb dL_law_422 (by decide) ?_
    refine kX_i (As := [.int (xs (6 * k + 1)), .int 0]) (rest := []) (q0 := 0) ⟨hx, hb, hml, hown, hts⟩ (x_X9_with l D cy ax _ J I O R RO LL Y (xs (6 * k + 1)) false fl S P hAc ⟨hM.1, hM.2.1, hM.2.2.1, hM.2.2.2.1, hM.2.2.2.2.1, hM.2.2.2.2.2.1, hM.2.2.2.2.2.2.1, hM.2.2.2.2.2.2.2.1, hRO0, hRO1, hRO2, hRO3⟩ hLk) (cwV 2 hts gq_X9_with rfl rfl rfl (by decide +kernel) ⟨Nat.le_of_ble_eq_true rfl, Nat.le_of_ble_eq_true rfl⟩) hK hN hP hD hS hA rfl rfl rfl hl.1 rfl (Nat.le_of_ble_eq_true rfl) dL_law_423 ⟨(show 39 + 17 * k + 3 ≤ 600000 by omega), (show 18292 + 85786 * k + 17156 ≤ 7302249 by omega)⟩ (fun r_2 u H locs hw hP hD hS => ?_)
    obtain ⟨w_3, w_4, LL_5, ⟨rfl, hL_6⟩, rfl⟩ := hw
    have hP : va_P D vwCl (MW cy am Jm Im Rm RJm ++ CT cy ax J (va_up I 10 w_3) (va_up O 5 w_4) R RO (LL_5 ++ Y)) H := hP
    have hD : va_D (fun q : Nat => s.heap.size ≤ q) (MW cy am Jm Im Rm RJm ++ CT cy ax J (va_up I 10 w_3) (va_up O 5 w_4) R RO (LL_5 ++ Y)) := hD
    refine lv_pop hx hb dL_law_426 rfl ?_
    refine lv_aload_n hx hb dL_law_427 rfl (lv_at hl 2 rfl) ?_
    refine lv_aload_n hx hb dL_law_428 rfl (lv_at hl 0 rfl) ?_
    refine lv_iload_n hx hb dL_law_429 rfl (lv_at hl 3 rfl) ?_
    refine lv_iconst (v := 1) hx hb dL_law_430 (by decide) ?_
    refine lv_iadd hx hb dL_law_431 ?_
    refine wtop_i (y := nI (6 * k + 1)) (by rw [← nI_add]; rfl) ?_
    refine va_sld hx hb hX hbl hbA hS (vp_in_nI (show 6 * k + 1 < L by omega) (by omega)) dL_law_432 ?_
    refine wtop_i (y := xs (6 * k + 1)) (by rw [nI_clamp (show 6 * k + 1 < 2 ^ 31 by omega)]) ?_
    refine lv_aload_n hx hb dL_law_433 rfl (lv_at hl 0 rfl) ?_
    refine lv_iload_n hx hb dL_law_434 rfl (lv_at hl 3 rfl) ?_
    refine lv_iconst (v := 2) hx hb dL_law_435 (by decide) ?_
    refine lv_iadd hx hb dL_law_436 ?_
    refine wtop_i (y := nI (6 * k + 2)) (by rw [← nI_add]; rfl) ?_
    refine va_sld hx hb hX hbl hbA hS (vp_in_nI (show 6 * k + 2 < L by omega) (by omega)) dL_law_437 ?_
    refine wtop_i (y := xs (6 * k + 2)) (by rw [nI_clamp (show 6 * k + 2 < 2 ^ 31 by omega)]) ?_
    refine lv_if_eq (tgt := 445) hx hb dL_law_438 (by decide) (fun c_7 => ?_) (fun c_7 => absurd c_1 c_7)
    refine lv_iconst (v := 0) hx hb dL_law_445 (by decide) ?_
    refine kV_i (As := [.int (xs (6 * k + 1)), .int 0]) (rest := []) (q0 := 0) ⟨hx, hb, hml, hown, hts⟩ (x_X10_with l D cy am _ Jm Im Rm RJm (xs (6 * k + 1)) false fl S P hAm hG.1 ⟨hMm.1, hMm.2.1, hMm.2.2.1, hMm.2.2.2.1, hMm.2.2.2.2.1, hMm.2.2.2.2.2⟩) (cwV 2 hts gq_X10_with rfl rfl rfl (by decide +kernel) ⟨Nat.le_of_ble_eq_true rfl, Nat.le_of_ble_eq_true rfl⟩) hK hN hP hD hS hA rfl rfl rfl hl.1 rfl (Nat.le_of_ble_eq_true rfl) dL_law_446 ⟨(show 39 + 17 * k + 3 + 0 ≤ 600000 by omega), (show 18292 + 85786 * k + 17156 + 0 ≤ 7302249 by omega)⟩ (fun r_8 u H locs hw hP hD hS => ?_)
    obtain ⟨w_9, w_10, w_11, w_12, w_13, rfl, rfl⟩ := hw
    have hP : va_P D vwCl (MW cy am (va_up (va_up (va_up Jm 19 w_9) 20 w_10) 21 w_11) (va_up Im 13 w_12) (va_up Rm 12 w_13) RJm ++ CT cy ax J (va_up I 10 w_3) (va_up O 5 w_4) R RO (LL_5 ++ Y)) H := hP
    have hD : va_D (fun q : Nat => s.heap.size ≤ q) (MW cy am (va_up (va_up (va_up Jm 19 w_9) 20 w_10) 21 w_11) (va_up Im 13 w_12) (va_up Rm 12 w_13) RJm ++ CT cy ax J (va_up I 10 w_3) (va_up O 5 w_4) R RO (LL_5 ++ Y)) := hD
    refine lv_pop hx hb dL_law_449 rfl ?_
    refine lv_goto (tgt := 1035) hx hb dL_law_450 (by decide) ?_
    refine W.widen (k := 39 + 17 * (k + 1)) (n := 18292 + 85786 * (k + 1)) (show 39 + 17 * k + 3 + 0 ≤ _ by omega) (show 18292 + 85786 * k + 17156 + 0 ≤ _ by omega) ?_
    exact kk (va_up (va_up (va_up Jm 19 w_9) 20 w_10) 21 w_11) (va_up Im 13 w_12) (va_up Rm 12 w_13) RJm J (va_up I 10 w_3) (va_up O 5 w_4) R RO LL_5 Y _ _ _ _ _ _ ⟨hMm.1, hMm.2.1, hMm.2.2.1, hMm.2.2.2.1, hMm.2.2.2.2.1, hMm.2.2.2.2.2⟩ ⟨hM.1, hM.2.1, hM.2.2.1, hM.2.2.2.1, hM.2.2.2.2.1, hM.2.2.2.2.2.1, hM.2.2.2.2.2.2.1, hM.2.2.2.2.2.2.2.1, hRO0, hRO1, hRO2, hRO3⟩ hL_6 hQ6 hQ hF hAm hSm hAc hSc hG _ _ hP hD hS ls (lv_sub hl [0, 1, 2, 3] rfl)
  · refine lv_iconst (v := 1) hx hb dL_law_418 (by decide) ?_
    refine lv_goto (tgt := 423) hx hb dL_law_419 (by decide) ?_
    refine kX_i (As := [.int (xs (6 * k + 1)), .int 1]) (rest := []) (q0 := 0) ⟨hx, hb, hml, hown, hts⟩ (x_X9_with l D cy ax _ J I O R RO LL Y (xs (6 * k + 1)) true fl S P hAc ⟨hM.1, hM.2.1, hM.2.2.1, hM.2.2.2.1, hM.2.2.2.2.1, hM.2.2.2.2.2.1, hM.2.2.2.2.2.2.1, hM.2.2.2.2.2.2.2.1, hRO0, hRO1, hRO2, hRO3⟩ hLk) (cwV 2 hts gq_X9_with rfl rfl rfl (by decide +kernel) ⟨Nat.le_of_ble_eq_true rfl, Nat.le_of_ble_eq_true rfl⟩) hK hN hP hD hS hA rfl rfl rfl hl.1 rfl (Nat.le_of_ble_eq_true rfl) dL_law_423 ⟨(show 39 + 17 * k + 3 ≤ 600000 by omega), (show 18292 + 85786 * k + 17156 ≤ 7302249 by omega)⟩ (fun r_14 u H locs hw hP hD hS => ?_)
    obtain ⟨w_15, w_16, LL_17, ⟨rfl, hL_18⟩, rfl⟩ := hw
    have hP : va_P D vwCl (MW cy am Jm Im Rm RJm ++ CT cy ax J (va_up I 10 w_15) (va_up O 5 w_16) R RO (LL_17 ++ Y)) H := hP
    have hD : va_D (fun q : Nat => s.heap.size ≤ q) (MW cy am Jm Im Rm RJm ++ CT cy ax J (va_up I 10 w_15) (va_up O 5 w_16) R RO (LL_17 ++ Y)) := hD
    refine lv_pop hx hb dL_law_426 rfl ?_
    refine lv_aload_n hx hb dL_law_427 rfl (lv_at hl 2 rfl) ?_
    refine lv_aload_n hx hb dL_law_428 rfl (lv_at hl 0 rfl) ?_
    refine lv_iload_n hx hb dL_law_429 rfl (lv_at hl 3 rfl) ?_
    refine lv_iconst (v := 1) hx hb dL_law_430 (by decide) ?_
    refine lv_iadd hx hb dL_law_431 ?_
    refine wtop_i (y := nI (6 * k + 1)) (by rw [← nI_add]; rfl) ?_
    refine va_sld hx hb hX hbl hbA hS (vp_in_nI (show 6 * k + 1 < L by omega) (by omega)) dL_law_432 ?_
    refine wtop_i (y := xs (6 * k + 1)) (by rw [nI_clamp (show 6 * k + 1 < 2 ^ 31 by omega)]) ?_
    refine lv_aload_n hx hb dL_law_433 rfl (lv_at hl 0 rfl) ?_
    refine lv_iload_n hx hb dL_law_434 rfl (lv_at hl 3 rfl) ?_
    refine lv_iconst (v := 2) hx hb dL_law_435 (by decide) ?_
    refine lv_iadd hx hb dL_law_436 ?_
    refine wtop_i (y := nI (6 * k + 2)) (by rw [← nI_add]; rfl) ?_
    refine va_sld hx hb hX hbl hbA hS (vp_in_nI (show 6 * k + 2 < L by omega) (by omega)) dL_law_437 ?_
    refine wtop_i (y := xs (6 * k + 2)) (by rw [nI_clamp (show 6 * k + 2 < 2 ^ 31 by omega)]) ?_
    refine lv_if_eq (tgt := 445) hx hb dL_law_438 (by decide) (fun c_19 => absurd c_19 c_1) (fun c_19 => ?_)
    refine lv_iconst (v := 1) hx hb dL_law_441 (by decide) ?_
    refine lv_goto (tgt := 446) hx hb dL_law_442 (by decide) ?_
    refine kV_i (As := [.int (xs (6 * k + 1)), .int 1]) (rest := []) (q0 := 0) ⟨hx, hb, hml, hown, hts⟩ (x_X10_with l D cy am _ Jm Im Rm RJm (xs (6 * k + 1)) true fl S P hAm hG.1 ⟨hMm.1, hMm.2.1, hMm.2.2.1, hMm.2.2.2.1, hMm.2.2.2.2.1, hMm.2.2.2.2.2⟩) (cwV 2 hts gq_X10_with rfl rfl rfl (by decide +kernel) ⟨Nat.le_of_ble_eq_true rfl, Nat.le_of_ble_eq_true rfl⟩) hK hN hP hD hS hA rfl rfl rfl hl.1 rfl (Nat.le_of_ble_eq_true rfl) dL_law_446 ⟨(show 39 + 17 * k + 3 + 0 ≤ 600000 by omega), (show 18292 + 85786 * k + 17156 + 0 ≤ 7302249 by omega)⟩ (fun r_20 u H locs hw hP hD hS => ?_)
    obtain ⟨w_21, w_22, w_23, w_24, w_25, rfl, rfl⟩ := hw
    have hP : va_P D vwCl (MW cy am (va_up (va_up (va_up Jm 19 w_21) 20 w_22) 21 w_23) (va_up Im 13 w_24) (va_up Rm 12 w_25) RJm ++ CT cy ax J (va_up I 10 w_15) (va_up O 5 w_16) R RO (LL_17 ++ Y)) H := hP
    have hD : va_D (fun q : Nat => s.heap.size ≤ q) (MW cy am (va_up (va_up (va_up Jm 19 w_21) 20 w_22) 21 w_23) (va_up Im 13 w_24) (va_up Rm 12 w_25) RJm ++ CT cy ax J (va_up I 10 w_15) (va_up O 5 w_16) R RO (LL_17 ++ Y)) := hD
    refine lv_pop hx hb dL_law_449 rfl ?_
    refine lv_goto (tgt := 1035) hx hb dL_law_450 (by decide) ?_
    refine W.widen (k := 39 + 17 * (k + 1)) (n := 18292 + 85786 * (k + 1)) (show 39 + 17 * k + 3 + 0 ≤ _ by omega) (show 18292 + 85786 * k + 17156 + 0 ≤ _ by omega) ?_
    exact kk (va_up (va_up (va_up Jm 19 w_21) 20 w_22) 21 w_23) (va_up Im 13 w_24) (va_up Rm 12 w_25) RJm J (va_up I 10 w_15) (va_up O 5 w_16) R RO LL_17 Y _ _ _ _ _ _ ⟨hMm.1, hMm.2.1, hMm.2.2.1, hMm.2.2.2.1, hMm.2.2.2.2.1, hMm.2.2.2.2.2⟩ ⟨hM.1, hM.2.1, hM.2.2.1, hM.2.2.2.1, hM.2.2.2.2.1, hM.2.2.2.2.2.1, hM.2.2.2.2.2.2.1, hM.2.2.2.2.2.2.2.1, hRO0, hRO1, hRO2, hRO3⟩ hL_18 hQ6 hQ hF hAm hSm hAc hSc hG _ _ hP hD hS ls (lv_sub hl [0, 1, 2, 3] rfl)
theorem dL_law_453 : decode cL_law 453 = .ok (.aload_n 1, 1) := by decide +kernel
theorem dL_law_454 : decode cL_law 454 = .ok (.aload_n 0, 1) := by decide +kernel
theorem dL_law_455 : decode cL_law 455 = .ok (.iload_n 3, 1) := by decide +kernel
theorem dL_law_456 : decode cL_law 456 = .ok (.iconst 1, 1) := by decide +kernel
theorem dL_law_457 : decode cL_law 457 = .ok (.iadd, 1) := by decide +kernel
theorem dL_law_458 : decode cL_law 458 = .ok (.iaload, 1) := by decide +kernel
theorem dL_law_459 : decode cL_law 459 = .ok (.invokevirtual 54, 3) := by decide +kernel
theorem dL_law_462 : decode cL_law 462 = .ok (.aload_n 2, 1) := by decide +kernel
theorem dL_law_463 : decode cL_law 463 = .ok (.aload_n 0, 1) := by decide +kernel
theorem dL_law_464 : decode cL_law 464 = .ok (.iload_n 3, 1) := by decide +kernel
theorem dL_law_465 : decode cL_law 465 = .ok (.iconst 1, 1) := by decide +kernel
theorem dL_law_466 : decode cL_law 466 = .ok (.iadd, 1) := by decide +kernel
theorem dL_law_467 : decode cL_law 467 = .ok (.iaload, 1) := by decide +kernel
theorem dL_law_468 : decode cL_law 468 = .ok (.invokevirtual 57, 3) := by decide +kernel
theorem dL_law_471 : decode cL_law 471 = .ok (.if_icmp .eq 564, 3) := by decide +kernel
set_option maxHeartbeats 4000000 in
set_option maxRecDepth 100000 in
theorem law_9 {p : Program} {e : Env} {s : State} {m : MethodId} {below : List Frame} {meth : Method} {c : Code} (l : Launch) {b L : Nat} {xs : Nat → Int32} {D : va_G} {cy : Nat → ClassId} (C0 : lawCtx p s m meth c b L xs D cy) (ax am : Nat → Nat) (k : Nat) (hk : 6 * k + 6 ≤ L) (hL384 : L ≤ 384) (Jm : Nat → Int64) (Im : Nat → Int32) (Rm : Nat → Nat → Int32) (RJm : Nat → Nat → Int64) (J : Nat → Int64) (I : Nat → Int32) (O : Nat → Option Nat) (R : Nat → Nat → Int32) (RO : Nat → Nat → Option Nat) (LL Y : va_W) (fl : Int64) (S : List Int32) (P : List PE) (Bs Zs : Nat → Int32) (Vs : Nat → Nat → Int32) (hMm : MI Im Rm) (hM : CI ax Y I O RO) (hLk : LOK cy (O 5) LL) (hQ6 : ∀ i, i < 81 → vp_in (R 6 i) 81) (hQ : Q64 (R 11)) (hF : Q64 (R 10)) (hAm : RMf (Jm 0) (Im 1) (Im 12) (Rm 1) (Rm 3) (Rm 4) (RJm 2) fl S P) (hSm : RMs (Rm 8) (Rm 9) (Rm 10) Bs Zs Vs) (hAc : RCf Y (J 6) (O 7) (I 9) (RO 2) fl S P) (hSc : RCs (I 385) (I 386) (R 13) (I 449) (I 450) (R 15) (I 513) (I 514) (R 17) (I 577) (I 578) (R 19) Bs Zs Vs) (hG : gAll fl S P) (kk : LK p l e s m below meth c b D cy ax am k (39 + 17 * (k + 1)) (18292 + 85786 * (k + 1)) 1035) (H : Heap) (locs : List Loc) (hP : va_P D vwCl (MW cy am Jm Im Rm RJm ++ CT cy ax J I O R RO (LL ++ Y)) H) (hD : va_D (fun q : Nat => s.heap.size ≤ q) (MW cy am Jm Im Rm RJm ++ CT cy ax J I O R RO (LL ++ Y))) (hS : va_S (fun q : Nat => s.heap.size ≤ q) s.heap H locs) (ls : Array Slot) (hl : lv_has ls 4 [(0, .ref b), (1, .ref (ax 0)), (2, .ref (am 0)), (3, .int (nI (6 * k)))]) : W p l e room_1 s m #[Value.ref b] below meth c H locs (39 + 17 * k) (18292 + 85786 * k) (lw_Z below #[Value.ref b] s) (F0 m 453 ls []) := by
  obtain ⟨⟨hx, hb, hr, hml, hown, hts, hX, hbl, hlocks, hgv⟩, hK, hN⟩ := C0
  have hown : s.vm.findClass RL = some m.cls := hown
  have hA : ∀ q : Nat, s.heap.size ≤ q → (fun q : Nat => s.heap.size ≤ q) q := fun _ h => h
  have hbA : ¬ (fun q : Nat => s.heap.size ≤ q) b := Nat.not_le.mpr hbl
  have hRO0 := hM.2.2.2.2.2.2.2.2.1
  have hRO1 := hM.2.2.2.2.2.2.2.2.2.1
  have hRO2 := hM.2.2.2.2.2.2.2.2.2.2.1
  have hRO3 := hM.2.2.2.2.2.2.2.2.2.2.2
  refine lv_aload_n hx hb dL_law_453 rfl (lv_at hl 1 rfl) ?_
  refine lv_aload_n hx hb dL_law_454 rfl (lv_at hl 0 rfl) ?_
  refine lv_iload_n hx hb dL_law_455 rfl (lv_at hl 3 rfl) ?_
  refine lv_iconst (v := 1) hx hb dL_law_456 (by decide) ?_
  refine lv_iadd hx hb dL_law_457 ?_
  refine wtop_i (y := nI (6 * k + 1)) (by rw [← nI_add]; rfl) ?_
  refine va_sld hx hb hX hbl hbA hS (vp_in_nI (show 6 * k + 1 < L by omega) (by omega)) dL_law_458 ?_
  refine wtop_i (y := xs (6 * k + 1)) (by rw [nI_clamp (show 6 * k + 1 < 2 ^ 31 by omega)]) ?_
  refine kX_i (As := [.int (xs (6 * k + 1))]) (rest := []) (q0 := 0) ⟨hx, hb, hml, hown, hts⟩ (x_X9_lay l D cy ax _ J I O R RO LL Y (xs (6 * k + 1)) fl S P hAc ⟨hM.1, hM.2.1, hM.2.2.1, hM.2.2.2.1, hM.2.2.2.2.1, hM.2.2.2.2.2.1, hM.2.2.2.2.2.2.1, hM.2.2.2.2.2.2.2.1, hRO0, hRO1, hRO2, hRO3⟩ hLk) (cwV 1 hts gq_X9_lay rfl rfl rfl (by decide +kernel) ⟨Nat.le_of_ble_eq_true rfl, Nat.le_of_ble_eq_true rfl⟩) hK hN hP hD hS hA rfl rfl rfl hl.1 rfl (Nat.le_of_ble_eq_true rfl) dL_law_459 ⟨(show 39 + 17 * k + 7 ≤ 600000 by omega), (show 18292 + 85786 * k + 34315 ≤ 7302249 by omega)⟩ (fun r_1 u H locs hw hP hD hS => ?_)
  obtain ⟨w_2, w_3, w_4, LL_5, Y_6, ⟨rfl, hi_7, hs_8, hL_9⟩, rfl⟩ := hw
  have hi_10 : chO Y_6 (O 7) := chO_mono hs_8 hM.2.1
  have hi_11 : ∀ i, i < 20 → pasO Y_6 ((RO 2) i) := pas_mono hs_8 hM.2.2.2.1
  have hmono_12 : ∀ c, c ∈ Y → c ∈ Y_6 := fun c h => hs_8 c ((fun _ h => h) c h)
  have hP : va_P D vwCl (MW cy am Jm Im Rm RJm ++ CT cy ax J (va_up I 10 w_2) (va_up (va_up O 5 w_3) 8 w_4) R RO (LL_5 ++ Y_6)) H := hP
  have hD : va_D (fun q : Nat => s.heap.size ≤ q) (MW cy am Jm Im Rm RJm ++ CT cy ax J (va_up I 10 w_2) (va_up (va_up O 5 w_3) 8 w_4) R RO (LL_5 ++ Y_6)) := hD
  refine lv_aload_n hx hb dL_law_462 rfl (lv_at hl 2 rfl) ?_
  refine lv_aload_n hx hb dL_law_463 rfl (lv_at hl 0 rfl) ?_
  refine lv_iload_n hx hb dL_law_464 rfl (lv_at hl 3 rfl) ?_
  refine lv_iconst (v := 1) hx hb dL_law_465 (by decide) ?_
  refine lv_iadd hx hb dL_law_466 ?_
  refine wtop_i (y := nI (6 * k + 1)) (by rw [← nI_add]; rfl) ?_
  refine va_sld hx hb hX hbl hbA hS (vp_in_nI (show 6 * k + 1 < L by omega) (by omega)) dL_law_467 ?_
  refine wtop_i (y := xs (6 * k + 1)) (by rw [nI_clamp (show 6 * k + 1 < 2 ^ 31 by omega)]) ?_
  refine kV_i (As := [.int (xs (6 * k + 1))]) (rest := [.int (aLay fl S (xs (6 * k + 1)))]) (q0 := 0) ⟨hx, hb, hml, hown, hts⟩ (x_X10_lay l D cy am _ Jm Im Rm RJm (xs (6 * k + 1)) fl S P hAm hG.1 ⟨hMm.1, hMm.2.1, hMm.2.2.1, hMm.2.2.2.1, hMm.2.2.2.2.1, hMm.2.2.2.2.2⟩) (cwV 1 hts gq_X10_lay rfl rfl rfl (by decide +kernel) ⟨Nat.le_of_ble_eq_true rfl, Nat.le_of_ble_eq_true rfl⟩) hK hN hP hD hS hA rfl rfl rfl hl.1 rfl (Nat.le_of_ble_eq_true rfl) dL_law_468 ⟨(show 39 + 17 * k + 7 + 0 ≤ 600000 by omega), (show 18292 + 85786 * k + 34315 + 0 ≤ 7302249 by omega)⟩ (fun r_13 u H locs hw hP hD hS => ?_)
  obtain ⟨w_14, w_15, w_16, w_17, w_18, w_19, w_20, w_21, w_22, w_23, ⟨rfl, hi_24⟩, rfl⟩ := hw
  have hP : va_P D vwCl (MW cy am (va_up (va_up (va_up (va_up (va_up (va_up (va_up Jm 4 w_14) 5 w_15) 19 w_16) 20 w_17) 21 w_18) 22 w_19) 23 w_20) (va_up (va_up Im 3 w_21) 13 w_22) (va_up Rm 12 w_23) RJm ++ CT cy ax J (va_up I 10 w_2) (va_up (va_up O 5 w_3) 8 w_4) R RO (LL_5 ++ Y_6)) H := hP
  have hD : va_D (fun q : Nat => s.heap.size ≤ q) (MW cy am (va_up (va_up (va_up (va_up (va_up (va_up (va_up Jm 4 w_14) 5 w_15) 19 w_16) 20 w_17) 21 w_18) 22 w_19) 23 w_20) (va_up (va_up Im 3 w_21) 13 w_22) (va_up Rm 12 w_23) RJm ++ CT cy ax J (va_up I 10 w_2) (va_up (va_up O 5 w_3) 8 w_4) R RO (LL_5 ++ Y_6)) := hD
  refine lv_icmp_eq (tgt := 1035) hx hb dL_law_471 (by decide) (fun c_25 => ?_) (fun c_25 => absurd rfl c_25)
  refine W.widen (k := 39 + 17 * (k + 1)) (n := 18292 + 85786 * (k + 1)) (show 39 + 17 * k + 7 + 0 ≤ _ by omega) (show 18292 + 85786 * k + 34315 + 0 ≤ _ by omega) ?_
  exact kk (va_up (va_up (va_up (va_up (va_up (va_up (va_up Jm 4 w_14) 5 w_15) 19 w_16) 20 w_17) 21 w_18) 22 w_19) 23 w_20) (va_up (va_up Im 3 w_21) 13 w_22) (va_up Rm 12 w_23) RJm J (va_up I 10 w_2) (va_up (va_up O 5 w_3) 8 w_4) R RO LL_5 Y_6 _ _ _ _ _ _ ⟨hMm.1, hi_24, hMm.2.2.1, hMm.2.2.2.1, hMm.2.2.2.2.1, hMm.2.2.2.2.2⟩ ⟨hM.1, hi_10, hi_7, hi_11, hM.2.2.2.2.1, hM.2.2.2.2.2.1, hM.2.2.2.2.2.2.1, hM.2.2.2.2.2.2.2.1, hRO0, hRO1, hRO2, hRO3⟩ hL_9 hQ6 hQ hF hAm hSm (RCf_mono hmono_12 hAc) hSc hG _ _ hP hD hS ls (lv_sub hl [0, 1, 2, 3] rfl)
