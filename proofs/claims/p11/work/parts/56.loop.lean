theorem dL_law_18 : decode cL_law 18 = .ok (.iload_n 3, 1) := by decide +kernel
theorem dL_law_19 : decode cL_law 19 = .ok (.aload_n 0, 1) := by decide +kernel
theorem dL_law_20 : decode cL_law 20 = .ok (.arraylength, 1) := by decide +kernel
theorem dL_law_21 : decode cL_law 21 = .ok (.bipush 6, 2) := by decide +kernel
theorem dL_law_23 : decode cL_law 23 = .ok (.isub, 1) := by decide +kernel
theorem dL_law_24 : decode cL_law 24 = .ok (.if_icmp .gt 1017, 3) := by decide +kernel
theorem dL_law_27 : decode cL_law 27 = .ok (.aload_n 0, 1) := by decide +kernel
theorem dL_law_28 : decode cL_law 28 = .ok (.iload_n 3, 1) := by decide +kernel
theorem dL_law_29 : decode cL_law 29 = .ok (.iaload, 1) := by decide +kernel
theorem dL_law_30 : decode cL_law 30 = .ok (.bipush 31, 2) := by decide +kernel
theorem dL_law_32 : decode cL_law 32 = .ok (.iand, 1) := by decide +kernel
theorem dL_law_33 : decode cL_law 33 = .ok (.tableswitch 1002 0 28 #[131, 164, 187, 210, 279, 292, 325, 358, 371, 420, 443, 456, 469, 492, 515, 528, 551, 584, 623, 656, 699, 758, 771, 794, 837, 880, 943, 966, 979], 131) := by decide +kernel
theorem dL_law_1035 : decode cL_law 1035 = .ok (.iinc 3 6, 3) := by decide +kernel
theorem dL_law_1038 : decode cL_law 1038 = .ok (.goto (-1020), 3) := by decide +kernel
theorem dL_law_1041 : decode cL_law 1041 = .ok (.iconst 1, 1) := by decide +kernel
theorem dL_law_1042 : decode cL_law 1042 = .ok (.ireturn, 1) := by decide +kernel
theorem lp_go {L k : Nat} (hL : L ≤ 384) (hk : k ≤ 64) (h : ¬ nI L - 6 < nI (6 * k)) : 6 * k + 6 ≤ L := by
  rw [Int32.lt_iff_toInt_lt, Int32.toInt_sub, nI_int (by omega), nI_int (by omega)] at h
  have e6 : (6 : Int32).toInt = 6 := rfl
  rw [e6, Int.bmod_eq_of_le (by omega) (by omega)] at h
  omega
set_option maxHeartbeats 4000000 in
set_option maxRecDepth 100000 in
/-- the loop, from its head on -/
theorem law_loop {p : Program} {e : Env} {s : State} {m : MethodId} {below : List Frame} {meth : Method} {c : Code} (l : Launch) {b L : Nat} {xs : Nat → Int32} {D : va_G} {cy : Nat → ClassId} (C0 : lawCtx p s m meth c b L xs D cy) (ax am : Nat → Nat) (hL384 : L ≤ 384) : ∀ (n k : Nat), 64 - k < n → k ≤ 64 → LK p l e s m below meth c b D cy ax am k (39 + 17 * k) (18292 + 85786 * k) 18 := by
  intro n
  induction n with
  | zero => intro k h; exact absurd h (Nat.not_lt_zero _)
  | succ n ih =>
    intro k hn hk64 Jm Im Rm RJm J I O R RO LL Y fl S P Bs Zs Vs hMm hM hLk hQ6 hQ hF hAm hSm hAc hSc hG H locs hP hD hS ls hl
    obtain ⟨⟨hx, hb, hr, hml, hown, hts, hX, hbl, hlocks, hgv⟩, hK, hN⟩ := id C0
    have hbA : ¬ (fun q : Nat => s.heap.size ≤ q) b := Nat.not_le.mpr hbl
    refine lv_iload_n hx hb dL_law_18 rfl (lv_at hl 3 rfl) ?_
    refine lv_aload_n hx hb dL_law_19 rfl (lv_at hl 0 rfl) ?_
    refine va_slen hx hb hX hbl hbA hS dL_law_20 ?_
    refine wtop_i (y := nI L) rfl ?_
    refine lv_bipush (v := 6) hx hb dL_law_21 (by decide) ?_
    refine lv_isub hx hb dL_law_23 ?_
    refine lv_icmp_gt (tgt := 1041) hx hb dL_law_24 (by decide) (fun c_1 => ?_) (fun c_1 => ?_)
    · refine lv_iconst (v := 1) hx hb dL_law_1041 (by decide) ?_
      refine va_forget (fun q hq => hS.2.2 q hq) ?_
      refine W.widen (k := 600000) (n := 7302249) (show 39 + 17 * k ≤ 600000 by omega) (show 18292 + 85786 * k ≤ 7302249 by omega) ?_
      exact lw_ret hx hb hr hlocks dL_law_1042
    have hk := lp_go hL384 hk64 c_1
    have kk : LK p l e s m below meth c b D cy ax am k (39 + 17 * (k + 1)) (18292 + 85786 * (k + 1)) 1035 := by
      intro Jm Im Rm RJm J I O R RO LL Y fl S P Bs Zs Vs hMm hM hLk hQ6 hQ hF hAm hSm hAc hSc hG H locs hP hD hS ls hl
      refine lv_iinc (v := nI (6 * (k + 1))) (lv' := [(3, .int (nI (6 * (k + 1)))), (0, .ref b), (1, .ref (ax 0)), (2, .ref (am 0))]) hx hb dL_law_1035 hl (k := 3) rfl (by rw [show 6 * (k + 1) = 6 * k + 6 from rfl, ← nI_add]; rfl) (by decide) rfl (fun ls hl => ?_)
      refine lv_goto (tgt := 18) hx hb dL_law_1038 (by decide) ?_
      exact ih (k + 1) (by omega) (by omega) Jm Im Rm RJm J I O R RO LL Y fl S P Bs Zs Vs hMm hM hLk hQ6 hQ hF hAm hSm hAc hSc hG H locs hP hD hS ls (lv_sub hl [1, 2, 3, 0] rfl)
    refine lv_aload_n hx hb dL_law_27 rfl (lv_at hl 0 rfl) ?_
    refine lv_iload_n hx hb dL_law_28 rfl (lv_at hl 3 rfl) ?_
    refine va_sld hx hb hX hbl hbA hS (vp_in_nI (show 6 * k < L by omega) (by omega)) dL_law_29 ?_
    refine wtop_i (y := xs (6 * k)) (by rw [nI_clamp (show 6 * k < 2 ^ 31 by omega)]) ?_
    refine lv_bipush (v := 31) hx hb dL_law_30 (by decide) ?_
    refine lv_iand hx hb dL_law_32 ?_
    by_cases c_0 : xs (6 * k) &&& 31 = 0
    · refine lv_tableIn (off := 131) (tgt := 164) hx hb dL_law_33 (by rw [c_0]; decide) (by rw [c_0]; decide) (by rw [c_0]; rfl) (by decide) ?_
      exact law_0 l C0 ax am k hk hL384 Jm Im Rm RJm J I O R RO LL Y fl S P Bs Zs Vs hMm hM hLk hQ6 hQ hF hAm hSm hAc hSc hG kk H locs hP hD hS ls hl
    by_cases c_1 : xs (6 * k) &&& 31 = 1
    · refine lv_tableIn (off := 164) (tgt := 197) hx hb dL_law_33 (by rw [c_1]; decide) (by rw [c_1]; decide) (by rw [c_1]; rfl) (by decide) ?_
      exact law_1 l C0 ax am k hk hL384 Jm Im Rm RJm J I O R RO LL Y fl S P Bs Zs Vs hMm hM hLk hQ6 hQ hF hAm hSm hAc hSc hG kk H locs hP hD hS ls hl
    by_cases c_2 : xs (6 * k) &&& 31 = 2
    · refine lv_tableIn (off := 187) (tgt := 220) hx hb dL_law_33 (by rw [c_2]; decide) (by rw [c_2]; decide) (by rw [c_2]; rfl) (by decide) ?_
      exact law_2 l C0 ax am k hk hL384 Jm Im Rm RJm J I O R RO LL Y fl S P Bs Zs Vs hMm hM hLk hQ6 hQ hF hAm hSm hAc hSc hG kk H locs hP hD hS ls hl
    by_cases c_3 : xs (6 * k) &&& 31 = 3
    · refine lv_tableIn (off := 210) (tgt := 243) hx hb dL_law_33 (by rw [c_3]; decide) (by rw [c_3]; decide) (by rw [c_3]; rfl) (by decide) ?_
      exact law_3 l C0 ax am k hk hL384 Jm Im Rm RJm J I O R RO LL Y fl S P Bs Zs Vs hMm hM hLk hQ6 hQ hF hAm hSm hAc hSc hG kk H locs hP hD hS ls hl
    by_cases c_4 : xs (6 * k) &&& 31 = 4
    · refine lv_tableIn (off := 279) (tgt := 312) hx hb dL_law_33 (by rw [c_4]; decide) (by rw [c_4]; decide) (by rw [c_4]; rfl) (by decide) ?_
      exact law_4 l C0 ax am k hk hL384 Jm Im Rm RJm J I O R RO LL Y fl S P Bs Zs Vs hMm hM hLk hQ6 hQ hF hAm hSm hAc hSc hG kk H locs hP hD hS ls hl
    by_cases c_5 : xs (6 * k) &&& 31 = 5
    · refine lv_tableIn (off := 292) (tgt := 325) hx hb dL_law_33 (by rw [c_5]; decide) (by rw [c_5]; decide) (by rw [c_5]; rfl) (by decide) ?_
      exact law_5 l C0 ax am k hk hL384 Jm Im Rm RJm J I O R RO LL Y fl S P Bs Zs Vs hMm hM hLk hQ6 hQ hF hAm hSm hAc hSc hG kk H locs hP hD hS ls hl
    by_cases c_6 : xs (6 * k) &&& 31 = 6
    · refine lv_tableIn (off := 325) (tgt := 358) hx hb dL_law_33 (by rw [c_6]; decide) (by rw [c_6]; decide) (by rw [c_6]; rfl) (by decide) ?_
      exact law_6 l C0 ax am k hk hL384 Jm Im Rm RJm J I O R RO LL Y fl S P Bs Zs Vs hMm hM hLk hQ6 hQ hF hAm hSm hAc hSc hG kk H locs hP hD hS ls hl
    by_cases c_7 : xs (6 * k) &&& 31 = 7
    · refine lv_tableIn (off := 358) (tgt := 391) hx hb dL_law_33 (by rw [c_7]; decide) (by rw [c_7]; decide) (by rw [c_7]; rfl) (by decide) ?_
      exact law_7 l C0 ax am k hk hL384 Jm Im Rm RJm J I O R RO LL Y fl S P Bs Zs Vs hMm hM hLk hQ6 hQ hF hAm hSm hAc hSc hG kk H locs hP hD hS ls hl
    by_cases c_8 : xs (6 * k) &&& 31 = 8
    · refine lv_tableIn (off := 371) (tgt := 404) hx hb dL_law_33 (by rw [c_8]; decide) (by rw [c_8]; decide) (by rw [c_8]; rfl) (by decide) ?_
      exact law_8 l C0 ax am k hk hL384 Jm Im Rm RJm J I O R RO LL Y fl S P Bs Zs Vs hMm hM hLk hQ6 hQ hF hAm hSm hAc hSc hG kk H locs hP hD hS ls hl
    by_cases c_9 : xs (6 * k) &&& 31 = 9
    · refine lv_tableIn (off := 420) (tgt := 453) hx hb dL_law_33 (by rw [c_9]; decide) (by rw [c_9]; decide) (by rw [c_9]; rfl) (by decide) ?_
      exact law_9 l C0 ax am k hk hL384 Jm Im Rm RJm J I O R RO LL Y fl S P Bs Zs Vs hMm hM hLk hQ6 hQ hF hAm hSm hAc hSc hG kk H locs hP hD hS ls hl
    by_cases c_10 : xs (6 * k) &&& 31 = 10
    · refine lv_tableIn (off := 443) (tgt := 476) hx hb dL_law_33 (by rw [c_10]; decide) (by rw [c_10]; decide) (by rw [c_10]; rfl) (by decide) ?_
      exact law_10 l C0 ax am k hk hL384 Jm Im Rm RJm J I O R RO LL Y fl S P Bs Zs Vs hMm hM hLk hQ6 hQ hF hAm hSm hAc hSc hG kk H locs hP hD hS ls hl
    by_cases c_11 : xs (6 * k) &&& 31 = 11
    · refine lv_tableIn (off := 456) (tgt := 489) hx hb dL_law_33 (by rw [c_11]; decide) (by rw [c_11]; decide) (by rw [c_11]; rfl) (by decide) ?_
      exact law_11 l C0 ax am k hk hL384 Jm Im Rm RJm J I O R RO LL Y fl S P Bs Zs Vs hMm hM hLk hQ6 hQ hF hAm hSm hAc hSc hG kk H locs hP hD hS ls hl
    by_cases c_12 : xs (6 * k) &&& 31 = 12
    · refine lv_tableIn (off := 469) (tgt := 502) hx hb dL_law_33 (by rw [c_12]; decide) (by rw [c_12]; decide) (by rw [c_12]; rfl) (by decide) ?_
      exact law_12 l C0 ax am k hk hL384 Jm Im Rm RJm J I O R RO LL Y fl S P Bs Zs Vs hMm hM hLk hQ6 hQ hF hAm hSm hAc hSc hG kk H locs hP hD hS ls hl
    by_cases c_13 : xs (6 * k) &&& 31 = 13
    · refine lv_tableIn (off := 492) (tgt := 525) hx hb dL_law_33 (by rw [c_13]; decide) (by rw [c_13]; decide) (by rw [c_13]; rfl) (by decide) ?_
      exact law_13 l C0 ax am k hk hL384 Jm Im Rm RJm J I O R RO LL Y fl S P Bs Zs Vs hMm hM hLk hQ6 hQ hF hAm hSm hAc hSc hG kk H locs hP hD hS ls hl
    by_cases c_14 : xs (6 * k) &&& 31 = 14
    · refine lv_tableIn (off := 515) (tgt := 548) hx hb dL_law_33 (by rw [c_14]; decide) (by rw [c_14]; decide) (by rw [c_14]; rfl) (by decide) ?_
      exact law_14 l C0 ax am k hk hL384 Jm Im Rm RJm J I O R RO LL Y fl S P Bs Zs Vs hMm hM hLk hQ6 hQ hF hAm hSm hAc hSc hG kk H locs hP hD hS ls hl
    by_cases c_15 : xs (6 * k) &&& 31 = 15
    · refine lv_tableIn (off := 528) (tgt := 561) hx hb dL_law_33 (by rw [c_15]; decide) (by rw [c_15]; decide) (by rw [c_15]; rfl) (by decide) ?_
      exact law_15 l C0 ax am k hk hL384 Jm Im Rm RJm J I O R RO LL Y fl S P Bs Zs Vs hMm hM hLk hQ6 hQ hF hAm hSm hAc hSc hG kk H locs hP hD hS ls hl
    by_cases c_16 : xs (6 * k) &&& 31 = 16
    · refine lv_tableIn (off := 551) (tgt := 584) hx hb dL_law_33 (by rw [c_16]; decide) (by rw [c_16]; decide) (by rw [c_16]; rfl) (by decide) ?_
      exact law_16 l C0 ax am k hk hL384 Jm Im Rm RJm J I O R RO LL Y fl S P Bs Zs Vs hMm hM hLk hQ6 hQ hF hAm hSm hAc hSc hG kk H locs hP hD hS ls hl
    by_cases c_17 : xs (6 * k) &&& 31 = 17
    · refine lv_tableIn (off := 584) (tgt := 617) hx hb dL_law_33 (by rw [c_17]; decide) (by rw [c_17]; decide) (by rw [c_17]; rfl) (by decide) ?_
      exact law_17 l C0 ax am k hk hL384 Jm Im Rm RJm J I O R RO LL Y fl S P Bs Zs Vs hMm hM hLk hQ6 hQ hF hAm hSm hAc hSc hG kk H locs hP hD hS ls hl
    by_cases c_18 : xs (6 * k) &&& 31 = 18
    · refine lv_tableIn (off := 623) (tgt := 656) hx hb dL_law_33 (by rw [c_18]; decide) (by rw [c_18]; decide) (by rw [c_18]; rfl) (by decide) ?_
      exact law_18 l C0 ax am k hk hL384 Jm Im Rm RJm J I O R RO LL Y fl S P Bs Zs Vs hMm hM hLk hQ6 hQ hF hAm hSm hAc hSc hG kk H locs hP hD hS ls hl
    by_cases c_19 : xs (6 * k) &&& 31 = 19
    · refine lv_tableIn (off := 656) (tgt := 689) hx hb dL_law_33 (by rw [c_19]; decide) (by rw [c_19]; decide) (by rw [c_19]; rfl) (by decide) ?_
      exact law_19 l C0 ax am k hk hL384 Jm Im Rm RJm J I O R RO LL Y fl S P Bs Zs Vs hMm hM hLk hQ6 hQ hF hAm hSm hAc hSc hG kk H locs hP hD hS ls hl
    by_cases c_20 : xs (6 * k) &&& 31 = 20
    · refine lv_tableIn (off := 699) (tgt := 732) hx hb dL_law_33 (by rw [c_20]; decide) (by rw [c_20]; decide) (by rw [c_20]; rfl) (by decide) ?_
      exact law_20 l C0 ax am k hk hL384 Jm Im Rm RJm J I O R RO LL Y fl S P Bs Zs Vs hMm hM hLk hQ6 hQ hF hAm hSm hAc hSc hG kk H locs hP hD hS ls hl
    by_cases c_21 : xs (6 * k) &&& 31 = 21
    · refine lv_tableIn (off := 758) (tgt := 791) hx hb dL_law_33 (by rw [c_21]; decide) (by rw [c_21]; decide) (by rw [c_21]; rfl) (by decide) ?_
      exact law_21 l C0 ax am k hk hL384 Jm Im Rm RJm J I O R RO LL Y fl S P Bs Zs Vs hMm hM hLk hQ6 hQ hF hAm hSm hAc hSc hG kk H locs hP hD hS ls hl
    by_cases c_22 : xs (6 * k) &&& 31 = 22
    · refine lv_tableIn (off := 771) (tgt := 804) hx hb dL_law_33 (by rw [c_22]; decide) (by rw [c_22]; decide) (by rw [c_22]; rfl) (by decide) ?_
      exact law_22 l C0 ax am k hk hL384 Jm Im Rm RJm J I O R RO LL Y fl S P Bs Zs Vs hMm hM hLk hQ6 hQ hF hAm hSm hAc hSc hG kk H locs hP hD hS ls hl
    by_cases c_23 : xs (6 * k) &&& 31 = 23
    · refine lv_tableIn (off := 794) (tgt := 827) hx hb dL_law_33 (by rw [c_23]; decide) (by rw [c_23]; decide) (by rw [c_23]; rfl) (by decide) ?_
      exact law_23 l C0 ax am k hk hL384 Jm Im Rm RJm J I O R RO LL Y fl S P Bs Zs Vs hMm hM hLk hQ6 hQ hF hAm hSm hAc hSc hG kk H locs hP hD hS ls hl
    by_cases c_24 : xs (6 * k) &&& 31 = 24
    · refine lv_tableIn (off := 837) (tgt := 870) hx hb dL_law_33 (by rw [c_24]; decide) (by rw [c_24]; decide) (by rw [c_24]; rfl) (by decide) ?_
      exact law_24 l C0 ax am k hk hL384 Jm Im Rm RJm J I O R RO LL Y fl S P Bs Zs Vs hMm hM hLk hQ6 hQ hF hAm hSm hAc hSc hG kk H locs hP hD hS ls hl
    by_cases c_25 : xs (6 * k) &&& 31 = 25
    · refine lv_tableIn (off := 880) (tgt := 913) hx hb dL_law_33 (by rw [c_25]; decide) (by rw [c_25]; decide) (by rw [c_25]; rfl) (by decide) ?_
      exact law_25 l C0 ax am k hk hL384 Jm Im Rm RJm J I O R RO LL Y fl S P Bs Zs Vs hMm hM hLk hQ6 hQ hF hAm hSm hAc hSc hG kk H locs hP hD hS ls hl
    by_cases c_26 : xs (6 * k) &&& 31 = 26
    · refine lv_tableIn (off := 943) (tgt := 976) hx hb dL_law_33 (by rw [c_26]; decide) (by rw [c_26]; decide) (by rw [c_26]; rfl) (by decide) ?_
      exact law_26 l C0 ax am k hk hL384 Jm Im Rm RJm J I O R RO LL Y fl S P Bs Zs Vs hMm hM hLk hQ6 hQ hF hAm hSm hAc hSc hG kk H locs hP hD hS ls hl
    by_cases c_27 : xs (6 * k) &&& 31 = 27
    · refine lv_tableIn (off := 966) (tgt := 999) hx hb dL_law_33 (by rw [c_27]; decide) (by rw [c_27]; decide) (by rw [c_27]; rfl) (by decide) ?_
      exact law_27 l C0 ax am k hk hL384 Jm Im Rm RJm J I O R RO LL Y fl S P Bs Zs Vs hMm hM hLk hQ6 hQ hF hAm hSm hAc hSc hG kk H locs hP hD hS ls hl
    by_cases c_28 : xs (6 * k) &&& 31 = 28
    · refine lv_tableIn (off := 979) (tgt := 1012) hx hb dL_law_33 (by rw [c_28]; decide) (by rw [c_28]; decide) (by rw [c_28]; rfl) (by decide) ?_
      exact law_28 l C0 ax am k hk hL384 Jm Im Rm RJm J I O R RO LL Y fl S P Bs Zs Vs hMm hM hLk hQ6 hQ hF hAm hSm hAc hSc hG kk H locs hP hD hS ls hl
    refine lv_tableOut (tgt := 1035) hx hb dL_law_33 (sw_out 0 28 (by decide) (by decide) (fun k hk1 hk2 => by have hq : k = 0 ∨ k = 1 ∨ k = 2 ∨ k = 3 ∨ k = 4 ∨ k = 5 ∨ k = 6 ∨ k = 7 ∨ k = 8 ∨ k = 9 ∨ k = 10 ∨ k = 11 ∨ k = 12 ∨ k = 13 ∨ k = 14 ∨ k = 15 ∨ k = 16 ∨ k = 17 ∨ k = 18 ∨ k = 19 ∨ k = 20 ∨ k = 21 ∨ k = 22 ∨ k = 23 ∨ k = 24 ∨ k = 25 ∨ k = 26 ∨ k = 27 ∨ k = 28 := (by omega); rcases hq with rfl | rfl | rfl | rfl | rfl | rfl | rfl | rfl | rfl | rfl | rfl | rfl | rfl | rfl | rfl | rfl | rfl | rfl | rfl | rfl | rfl | rfl | rfl | rfl | rfl | rfl | rfl | rfl | rfl <;> assumption)) (by decide) ?_
    refine W.widen (k := 39 + 17 * (k + 1)) (n := 18292 + 85786 * (k + 1)) (by omega) (by omega) ?_
    exact kk Jm Im Rm RJm J I O R RO LL Y fl S P Bs Zs Vs hMm hM hLk hQ6 hQ hF hAm hSm hAc hSc hG H locs hP hD hS ls hl
