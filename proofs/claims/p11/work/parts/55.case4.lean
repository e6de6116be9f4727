theorem dL_law_732 : decode cL_law 732 = .ok (.aload_n 1, 1) := by decide +kernel
theorem dL_law_733 : decode cL_law 733 = .ok (.aload_n 0, 1) := by decide +kernel
theorem dL_law_734 : decode cL_law 734 = .ok (.iload_n 3, 1) := by decide +kernel
theorem dL_law_735 : decode cL_law 735 = .ok (.iconst 1, 1) := by decide +kernel
theorem dL_law_736 : decode cL_law 736 = .ok (.iadd, 1) := by decide +kernel
theorem dL_law_737 : decode cL_law 737 = .ok (.iaload, 1) := by decide +kernel
theorem dL_law_738 : decode cL_law 738 = .ok (.aload_n 0, 1) := by decide +kernel
theorem dL_law_739 : decode cL_law 739 = .ok (.iload_n 3, 1) := by decide +kernel
theorem dL_law_740 : decode cL_law 740 = .ok (.iconst 2, 1) := by decide +kernel
theorem dL_law_741 : decode cL_law 741 = .ok (.iadd, 1) := by decide +kernel
theorem dL_law_742 : decode cL_law 742 = .ok (.iaload, 1) := by decide +kernel
theorem dL_law_743 : decode cL_law 743 = .ok (.aload_n 0, 1) := by decide +kernel
theorem dL_law_744 : decode cL_law 744 = .ok (.iload_n 3, 1) := by decide +kernel
theorem dL_law_745 : decode cL_law 745 = .ok (.iconst 3, 1) := by decide +kernel
theorem dL_law_746 : decode cL_law 746 = .ok (.iadd, 1) := by decide +kernel
theorem dL_law_747 : decode cL_law 747 = .ok (.iaload, 1) := by decide +kernel
theorem dL_law_748 : decode cL_law 748 = .ok (.ifCond .eq 7, 3) := by decide +kernel
theorem dL_law_755 : decode cL_law 755 = .ok (.iconst 0, 1) := by decide +kernel
theorem dL_law_756 : decode cL_law 756 = .ok (.invokevirtual 100, 3) := by decide +kernel
theorem dL_law_759 : decode cL_law 759 = .ok (.pop, 1) := by decide +kernel
theorem dL_law_760 : decode cL_law 760 = .ok (.aload_n 2, 1) := by decide +kernel
theorem dL_law_761 : decode cL_law 761 = .ok (.aload_n 0, 1) := by decide +kernel
theorem dL_law_762 : decode cL_law 762 = .ok (.iload_n 3, 1) := by decide +kernel
theorem dL_law_763 : decode cL_law 763 = .ok (.iconst 1, 1) := by decide +kernel
theorem dL_law_764 : decode cL_law 764 = .ok (.iadd, 1) := by decide +kernel
theorem dL_law_765 : decode cL_law 765 = .ok (.iaload, 1) := by decide +kernel
theorem dL_law_766 : decode cL_law 766 = .ok (.aload_n 0, 1) := by decide +kernel
theorem dL_law_767 : decode cL_law 767 = .ok (.iload_n 3, 1) := by decide +kernel
theorem dL_law_768 : decode cL_law 768 = .ok (.iconst 2, 1) := by decide +kernel
theorem dL_law_769 : decode cL_law 769 = .ok (.iadd, 1) := by decide +kernel
theorem dL_law_770 : decode cL_law 770 = .ok (.iaload, 1) := by decide +kernel
theorem dL_law_771 : decode cL_law 771 = .ok (.aload_n 0, 1) := by decide +kernel
theorem dL_law_772 : decode cL_law 772 = .ok (.iload_n 3, 1) := by decide +kernel
theorem dL_law_773 : decode cL_law 773 = .ok (.iconst 3, 1) := by decide +kernel
theorem dL_law_774 : decode cL_law 774 = .ok (.iadd, 1) := by decide +kernel
theorem dL_law_775 : decode cL_law 775 = .ok (.iaload, 1) := by decide +kernel
theorem dL_law_776 : decode cL_law 776 = .ok (.ifCond .eq 7, 3) := by decide +kernel
theorem dL_law_783 : decode cL_law 783 = .ok (.iconst 0, 1) := by decide +kernel
theorem dL_law_784 : decode cL_law 784 = .ok (.invokevirtual 104, 3) := by decide +kernel
theorem dL_law_787 : decode cL_law 787 = .ok (.pop, 1) := by decide +kernel
theorem dL_law_788 : decode cL_law 788 = .ok (.goto 247, 3) := by decide +kernel
theorem dL_law_751 : decode cL_law 751 = .ok (.iconst 1, 1) := by decide +kernel
theorem dL_law_752 : decode cL_law 752 = .ok (.goto 4, 3) := by decide +kernel
theorem dL_law_779 : decode cL_law 779 = .ok (.iconst 1, 1) := by decide +kernel
theorem dL_law_780 : decode cL_law 780 = .ok (.goto 4, 3) := by decide +kernel
set_option maxHeartbeats 4000000 in
set_option maxRecDepth 100000 in
theorem law_20 {p : Program} {e : Env} {s : State} {m : MethodId} {below : List Frame} {meth : Method} {c : Code} (l : Launch) {b L : Nat} {xs : Nat → Int32} {D : va_G} {cy : Nat → ClassId} (C0 : lawCtx p s m meth c b L xs D cy) (ax am : Nat → Nat) (k : Nat) (hk : 6 * k + 6 ≤ L) (hL384 : L ≤ 384) (Jm : Nat → Int64) (Im : Nat → Int32) (Rm : Nat → Nat → Int32) (RJm : Nat → Nat → Int64) (J : Nat → Int64) (I : Nat → Int32) (O : Nat → Option Nat) (R : Nat → Nat → Int32) (RO : Nat → Nat → Option Nat) (LL Y : va_W) (fl : Int64) (S : List Int32) (P : List PE) (Bs Zs : Nat → Int32) (Vs : Nat → Nat → Int32) (hMm : MI Im Rm) (hM : CI ax Y I O RO) (hLk : LOK cy (O 5) LL) (hQ6 : ∀ i, i < 81 → vp_in (R 6 i) 81) (hQ : Q64 (R 11)) (hF : Q64 (R 10)) (hAm : RMf (Jm 0) (Im 1) (Im 12) (Rm 1) (Rm 3) (Rm 4) (RJm 2) fl S P) (hSm : RMs (Rm 8) (Rm 9) (Rm 10) Bs Zs Vs) (hAc : RCf Y (J 6) (O 7) (I 9) (RO 2) fl S P) (hSc : RCs (I 385) (I 386) (R 13) (I 449) (I 450) (R 15) (I 513) (I 514) (R 17) (I 577) (I 578) (R 19) Bs Zs Vs) (hG : gAll fl S P) (kk : LK p l e s m below meth c b D cy ax am k (39 + 17 * (k + 1)) (18292 + 85786 * (k + 1)) 1035) (H : Heap) (locs : List Loc) (hP : va_P D vwCl (MW cy am Jm Im Rm RJm ++ CT cy ax J I O R RO (LL ++ Y)) H) (hD : va_D (fun q : Nat => s.heap.size ≤ q) (MW cy am Jm Im Rm RJm ++ CT cy ax J I O R RO (LL ++ Y))) (hS : va_S (fun q : Nat => s.heap.size ≤ q) s.heap H locs) (ls : Array Slot) (hl : lv_has ls 4 [(0, .ref b), (1, .ref (ax 0)), (2, .ref (am 0)), (3, .int (nI (6 * k)))]) : W p l e room_1 s m #[Value.ref b] below meth c H locs (39 + 17 * k) (18292 + 85786 * k) (lw_Z below #[Value.ref b] s) (F0 m 732 ls []) := by
  obtain ⟨⟨hx, hb, hr, hml, hown, hts, hX, hbl, hlocks, hgv⟩, hK, hN⟩ := C0
  have hown : s.vm.findClass RL = some m.cls := hown
  have hA : ∀ q : Nat, s.heap.size ≤ q → (fun q : Nat => s.heap.size ≤ q) q := fun _ h => h
  have hbA : ¬ (fun q : Nat => s.heap.size ≤ q) b := Nat.not_le.mpr hbl
  have hRO0 := hM.2.2.2.2.2.2.2.2.1
  have hRO1 := hM.2.2.2.2.2.2.2.2.2.1
  have hRO2 := hM.2.2.2.2.2.2.2.2.2.2.1
  have hRO3 := hM.2.2.2.2.2.2.2.2.2.2.2
  refine lv_aload_n hx hb dL_law_732 rfl (lv_at hl 1 rfl) ?_
  refine lv_aload_n hx hb dL_law_733 rfl (lv_at hl 0 rfl) ?_
  refine lv_iload_n hx hb dL_law_734 rfl (lv_at hl 3 rfl) ?_
  refine lv_iconst (v := 1) hx hb dL_law_735 (by decide) ?_
  refine lv_iadd hx hb dL_law_736 ?_
  refine wtop_i (y := nI (6 * k + 1)) (by rw [← nI_add]; rfl) ?_
  refine va_sld hx hb hX hbl hbA hS (vp_in_nI (show 6 * k + 1 < L by omega) (by omega)) dL_law_737 ?_
  refine wtop_i (y := xs (6 * k + 1)) (by rw [nI_clamp (show 6 * k + 1 < 2 ^ 31 by omega)]) ?_
  refine lv_aload_n hx hb dL_law_738 rfl (lv_at hl 0 rfl) ?_
  refine lv_iload_n hx hb dL_law_739 rfl (lv_at hl 3 rfl) ?_
  refine lv_iconst (v := 2) hx hb dL_law_740 (by decide) ?_
  refine lv_iadd hx hb dL_law_741 ?_
  refine wtop_i (y := nI (6 * k + 2)) (by rw [← nI_add]; rfl) ?_
  refine va_sld hx hb hX hbl hbA hS (vp_in_nI (show 6 * k + 2 < L by omega) (by omega)) dL_law_742 ?_
  refine wtop_i (y := xs (6 * k + 2)) (by rw [nI_clamp (show 6 * k + 2 < 2 ^ 31 by omega)]) ?_
  refine lv_aload_n hx hb dL_law_743 rfl (lv_at hl 0 rfl) ?_
  refine lv_iload_n hx hb dL_law_744 rfl (lv_at hl 3 rfl) ?_
  refine lv_iconst (v := 3) hx hb dL_law_745 (by decide) ?_
  refine lv_iadd hx hb dL_law_746 ?_
  refine wtop_i (y := nI (6 * k + 3)) (by rw [← nI_add]; rfl) ?_
  refine va_sld hx hb hX hbl hbA hS (vp_in_nI (show 6 * k + 3 < L by omega) (by omega)) dL_law_747 ?_
  refine wtop_i (y := xs (6 * k + 3)) (by rw [nI_clamp (show 6 * k + 3 < 2 ^ 31 by omega)]) ?_
  refine lv_if_eq (tgt := 755) hx hb dL_law_748 (by decide) (fun c_1 => ?_) (fun c_1 => ?_)
  · refine lv_iconst (v := 0) hx hb dL_law_755 (by decide) ?_
    refine kX_i (As := [.int (xs (6 * k + 1)), .int (xs (6 * k + 2)), .int 0]) (rest := []) (q0 := 0) ⟨hx, hb, hml, hown, hts⟩ (t_X9_meet l D cy ax _ J I O R RO LL Y (xs (6 * k + 1)) (xs (6 * k + 2)) false hQ6 ⟨hM.1, hM.2.1, hM.2.2.1, hM.2.2.2.1, hM.2.2.2.2.1, hM.2.2.2.2.2.1, hM.2.2.2.2.2.2.1, hM.2.2.2.2.2.2.2.1, hRO0, hRO1, hRO2, hRO3⟩ hLk) (cwV 3 hts gq_X9_meet rfl rfl rfl (by decide +kernel) ⟨Nat.le_of_ble_eq_true rfl, Nat.le_of_ble_eq_true rfl⟩) hK hN hP hD hS hA rfl rfl rfl hl.1 rfl (Nat.le_of_ble_eq_true rfl) dL_law_756 ⟨(show 39 + 17 * k + 17 ≤ 600000 by omega), (show 18292 + 85786 * k + 85786 ≤ 7302249 by omega)⟩ (fun r_2 u H locs hw hP hD hS => ?_)
    obtain ⟨w_3, w_4, w_5, w_6, w_7, w_8, w_9, LL_10, Y_11, ⟨hs_12, hL_13, hp_14⟩, rfl⟩ := hw
    have hi_15 : chO Y_11 (O 7) := chO_mono hs_12 hM.2.1
    have hi_16 : layO Y_11 (O 8) := layO_mono hs_12 hM.2.2.1
    have hi_17 : ∀ i, i < 20 → pasO Y_11 ((RO 2) i) := pas_mono hs_12 hM.2.2.2.1
    have hmono_18 : ∀ c, c ∈ Y → c ∈ Y_11 := fun c h => hs_12 c ((fun _ h => h) c h)
    have hP : va_P D vwCl (MW cy am Jm Im Rm RJm ++ CT cy ax J (va_up (va_up I 10 w_3) 99 w_4) (va_up (va_up O 5 w_5) 100 w_6) (va_up (va_up (va_up R 4 w_7) 5 w_8) 6 w_9) RO (LL_10 ++ Y_11)) H := hP
    have hD : va_D (fun q : Nat => s.heap.size ≤ q) (MW cy am Jm Im Rm RJm ++ CT cy ax J (va_up (va_up I 10 w_3) 99 w_4) (va_up (va_up O 5 w_5) 100 w_6) (va_up (va_up (va_up R 4 w_7) 5 w_8) 6 w_9) RO (LL_10 ++ Y_11)) := hD
    refine lv_pop hx hb dL_law_759 rfl ?_
    refine lv_aload_n hx hb dL_law_760 rfl (lv_at hl 2 rfl) ?_
    refine lv_aload_n hx hb dL_law_761 rfl (lv_at hl 0 rfl) ?_
    refine lv_iload_n hx hb dL_law_762 rfl (lv_at hl 3 rfl) ?_
    refine lv_iconst (v := 1) hx hb dL_law_763 (by decide) ?_
    refine lv_iadd hx hb dL_law_764 ?_
    refine wtop_i (y := nI (6 * k + 1)) (by rw [← nI_add]; rfl) ?_
    refine va_sld hx hb hX hbl hbA hS (vp_in_nI (show 6 * k + 1 < L by omega) (by omega)) dL_law_765 ?_
    refine wtop_i (y := xs (6 * k + 1)) (by rw [nI_clamp (show 6 * k + 1 < 2 ^ 31 by omega)]) ?_
    refine lv_aload_n hx hb dL_law_766 rfl (lv_at hl 0 rfl) ?_
    refine lv_iload_n hx hb dL_law_767 rfl (lv_at hl 3 rfl) ?_
    refine lv_iconst (v := 2) hx hb dL_law_768 (by decide) ?_
    refine lv_iadd hx hb dL_law_769 ?_
    refine wtop_i (y := nI (6 * k + 2)) (by rw [← nI_add]; rfl) ?_
    refine va_sld hx hb hX hbl hbA hS (vp_in_nI (show 6 * k + 2 < L by omega) (by omega)) dL_law_770 ?_
    refine wtop_i (y := xs (6 * k + 2)) (by rw [nI_clamp (show 6 * k + 2 < 2 ^ 31 by omega)]) ?_
    refine lv_aload_n hx hb dL_law_771 rfl (lv_at hl 0 rfl) ?_
    refine lv_iload_n hx hb dL_law_772 rfl (lv_at hl 3 rfl) ?_
    refine lv_iconst (v := 3) hx hb dL_law_773 (by decide) ?_
    refine lv_iadd hx hb dL_law_774 ?_
    refine wtop_i (y := nI (6 * k + 3)) (by rw [← nI_add]; rfl) ?_
    refine va_sld hx hb hX hbl hbA hS (vp_in_nI (show 6 * k + 3 < L by omega) (by omega)) dL_law_775 ?_
    refine wtop_i (y := xs (6 * k + 3)) (by rw [nI_clamp (show 6 * k + 3 < 2 ^ 31 by omega)]) ?_
    refine lv_if_eq (tgt := 783) hx hb dL_law_776 (by decide) (fun c_19 => ?_) (fun c_19 => absurd c_1 c_19)
    refine lv_iconst (v := 0) hx hb dL_law_783 (by decide) ?_
    refine kV_i (As := [.int (xs (6 * k + 1)), .int (xs (6 * k + 2)), .int 0]) (rest := []) (q0 := 0) ⟨hx, hb, hml, hown, hts⟩ (t_X10_meet l D cy am _ Jm Im Rm RJm (xs (6 * k + 1)) (xs (6 * k + 2)) false  ⟨hMm.1, hMm.2.1, hMm.2.2.1, hMm.2.2.2.1, hMm.2.2.2.2.1, hMm.2.2.2.2.2⟩) (cwV 3 hts gq_X10_meet rfl rfl rfl (by decide +kernel) ⟨Nat.le_of_ble_eq_true rfl, Nat.le_of_ble_eq_true rfl⟩) hK hN hP hD hS hA rfl rfl rfl hl.1 rfl (Nat.le_of_ble_eq_true rfl) dL_law_784 ⟨(show 39 + 17 * k + 17 + 0 ≤ 600000 by omega), (show 18292 + 85786 * k + 85786 + 0 ≤ 7302249 by omega)⟩ (fun r_20 u H locs hw hP hD hS => ?_)
    obtain ⟨w_21, w_22, w_23, w_24, w_25, w_26, w_27, w_28, w_29, w_30, -, rfl⟩ := hw
    have hP : va_P D vwCl (MW cy am (va_up (va_up (va_up (va_up (va_up Jm 19 w_21) 20 w_22) 21 w_23) 22 w_24) 23 w_25) (va_up Im 13 w_26) (va_up (va_up (va_up (va_up Rm 11 w_27) 12 w_28) 13 w_29) 14 w_30) RJm ++ CT cy ax J (va_up (va_up I 10 w_3) 99 w_4) (va_up (va_up O 5 w_5) 100 w_6) (va_up (va_up (va_up R 4 w_7) 5 w_8) 6 w_9) RO (LL_10 ++ Y_11)) H := hP
    have hD : va_D (fun q : Nat => s.heap.size ≤ q) (MW cy am (va_up (va_up (va_up (va_up (va_up Jm 19 w_21) 20 w_22) 21 w_23) 22 w_24) 23 w_25) (va_up Im 13 w_26) (va_up (va_up (va_up (va_up Rm 11 w_27) 12 w_28) 13 w_29) 14 w_30) RJm ++ CT cy ax J (va_up (va_up I 10 w_3) 99 w_4) (va_up (va_up O 5 w_5) 100 w_6) (va_up (va_up (va_up R 4 w_7) 5 w_8) 6 w_9) RO (LL_10 ++ Y_11)) := hD
    refine lv_pop hx hb dL_law_787 rfl ?_
    refine lv_goto (tgt := 1035) hx hb dL_law_788 (by decide) ?_
    refine W.widen (k := 39 + 17 * (k + 1)) (n := 18292 + 85786 * (k + 1)) (show 39 + 17 * k + 17 + 0 ≤ _ by omega) (show 18292 + 85786 * k + 85786 + 0 ≤ _ by omega) ?_
    exact kk (va_up (va_up (va_up (va_up (va_up Jm 19 w_21) 20 w_22) 21 w_23) 22 w_24) 23 w_25) (va_up Im 13 w_26) (va_up (va_up (va_up (va_up Rm 11 w_27) 12 w_28) 13 w_29) 14 w_30) RJm J (va_up (va_up I 10 w_3) 99 w_4) (va_up (va_up O 5 w_5) 100 w_6) (va_up (va_up (va_up R 4 w_7) 5 w_8) 6 w_9) RO LL_10 Y_11 _ _ _ _ _ _ ⟨hMm.1, hMm.2.1, hMm.2.2.1, hMm.2.2.2.1, hMm.2.2.2.2.1, hMm.2.2.2.2.2⟩ ⟨hM.1, hi_15, hi_16, hi_17, hM.2.2.2.2.1, hM.2.2.2.2.2.1, hM.2.2.2.2.2.2.1, hM.2.2.2.2.2.2.2.1, hRO0, hRO1, hRO2, hRO3⟩ hL_13 hp_14 hQ hF hAm hSm (RCf_mono hmono_18 hAc) hSc hG _ _ hP hD hS ls (lv_sub hl [0, 1, 2, 3] rfl)
  · refine lv_iconst (v := 1) hx hb dL_law_751 (by decide) ?_
    refine lv_goto (tgt := 756) hx hb dL_law_752 (by decide) ?_
    refine kX_i (As := [.int (xs (6 * k + 1)), .int (xs (6 * k + 2)), .int 1]) (rest := []) (q0 := 0) ⟨hx, hb, hml, hown, hts⟩ (t_X9_meet l D cy ax _ J I O R RO LL Y (xs (6 * k + 1)) (xs (6 * k + 2)) true hQ6 ⟨hM.1, hM.2.1, hM.2.2.1, hM.2.2.2.1, hM.2.2.2.2.1, hM.2.2.2.2.2.1, hM.2.2.2.2.2.2.1, hM.2.2.2.2.2.2.2.1, hRO0, hRO1, hRO2, hRO3⟩ hLk) (cwV 3 hts gq_X9_meet rfl rfl rfl (by decide +kernel) ⟨Nat.le_of_ble_eq_true rfl, Nat.le_of_ble_eq_true rfl⟩) hK hN hP hD hS hA rfl rfl rfl hl.1 rfl (Nat.le_of_ble_eq_true rfl) dL_law_756 ⟨(show 39 + 17 * k + 17 ≤ 600000 by omega), (show 18292 + 85786 * k + 85786 ≤ 7302249 by omega)⟩ (fun r_31 u H locs hw hP hD hS => ?_)
    obtain ⟨w_32, w_33, w_34, w_35, w_36, w_37, w_38, LL_39, Y_40, ⟨hs_41, hL_42, hp_43⟩, rfl⟩ := hw
    have hi_44 : chO Y_40 (O 7) := chO_mono hs_41 hM.2.1
    have hi_45 : layO Y_40 (O 8) := layO_mono hs_41 hM.2.2.1
    have hi_46 : ∀ i, i < 20 → pasO Y_40 ((RO 2) i) := pas_mono hs_41 hM.2.2.2.1
    have hmono_47 : ∀ c, c ∈ Y → c ∈ Y_40 := fun c h => hs_41 c ((fun _ h => h) c h)
    have hP : va_P D vwCl (MW cy am Jm Im Rm RJm ++ CT cy ax J (va_up (va_up I 10 w_32) 99 w_33) (va_up (va_up O 5 w_34) 100 w_35) (va_up (va_up (va_up R 4 w_36) 5 w_37) 6 w_38) RO (LL_39 ++ Y_40)) H := hP
    have hD : va_D (fun q : Nat => s.heap.size ≤ q) (MW cy am Jm Im Rm RJm ++ CT cy ax J (va_up (va_up I 10 w_32) 99 w_33) (va_up (va_up O 5 w_34) 100 w_35) (va_up (va_up (va_up R 4 w_36) 5 w_37) 6 w_38) RO (LL_39 ++ Y_40)) := hD
    refine lv_pop hx hb dL_law_759 rfl ?_
    refine lv_aload_n hx hb dL_law_760 rfl (lv_at hl 2 rfl) ?_
    refine lv_aload_n hx hb dL_law_761 rfl (lv_at hl 0 rfl) ?_
    refine lv_iload_n hx hb dL_law_762 rfl (lv_at hl 3 rfl) ?_
    refine lv_iconst (v := 1) hx hb dL_law_763 (by decide) ?_
    refine lv_iadd hx hb dL_law_764 ?_
    refine wtop_i (y := nI (6 * k + 1)) (by rw [← nI_add]; rfl) ?_
    refine va_sld hx hb hX hbl hbA hS (vp_in_nI (show 6 * k + 1 < L by omega) (by omega)) dL_law_765 ?_
    refine wtop_i (y := xs (6 * k + 1)) (by rw [nI_clamp (show 6 * k + 1 < 2 ^ 31 by omega)]) ?_
    refine lv_aload_n hx hb dL_law_766 rfl (lv_at hl 0 rfl) ?_
    refine lv_iload_n hx hb dL_law_767 rfl (lv_at hl 3 rfl) ?_
    refine lv_iconst (v := 2) hx hb dL_law_768 (by decide) ?_
    refine lv_iadd hx hb dL_law_769 ?_
    refine wtop_i (y := nI (6 * k + 2)) (by rw [← nI_add]; rfl) ?_
    refine va_sld hx hb hX hbl hbA hS (vp_in_nI (show 6 * k + 2 < L by omega) (by omega)) dL_law_770 ?_
    refine wtop_i (y := xs (6 * k + 2)) (by rw [nI_clamp (show 6 * k + 2 < 2 ^ 31 by omega)]) ?_
    refine lv_aload_n hx hb dL_law_771 rfl (lv_at hl 0 rfl) ?_
    refine lv_iload_n hx hb dL_law_772 rfl (lv_at hl 3 rfl) ?_
    refine lv_iconst (v := 3) hx hb dL_law_773 (by decide) ?_
    refine lv_iadd hx hb dL_law_774 ?_
    refine wtop_i (y := nI (6 * k + 3)) (by rw [← nI_add]; rfl) ?_
    refine va_sld hx hb hX hbl hbA hS (vp_in_nI (show 6 * k + 3 < L by omega) (by omega)) dL_law_775 ?_
    refine wtop_i (y := xs (6 * k + 3)) (by rw [nI_clamp (show 6 * k + 3 < 2 ^ 31 by omega)]) ?_
    refine lv_if_eq (tgt := 783) hx hb dL_law_776 (by decide) (fun c_48 => absurd c_48 c_1) (fun c_48 => ?_)
    refine lv_iconst (v := 1) hx hb dL_law_779 (by decide) ?_
    refine lv_goto (tgt := 784) hx hb dL_law_780 (by decide) ?_
    refine kV_i (As := [.int (xs (6 * k + 1)), .int (xs (6 * k + 2)), .int 1]) (rest := []) (q0 := 0) ⟨hx, hb, hml, hown, hts⟩ (t_X10_meet l D cy am _ Jm Im Rm RJm (xs (6 * k + 1)) (xs (6 * k + 2)) true  ⟨hMm.1, hMm.2.1, hMm.2.2.1, hMm.2.2.2.1, hMm.2.2.2.2.1, hMm.2.2.2.2.2⟩) (cwV 3 hts gq_X10_meet rfl rfl rfl (by decide +kernel) ⟨Nat.le_of_ble_eq_true rfl, Nat.le_of_ble_eq_true rfl⟩) hK hN hP hD hS hA rfl rfl rfl hl.1 rfl (Nat.le_of_ble_eq_true rfl) dL_law_784 ⟨(show 39 + 17 * k + 17 + 0 ≤ 600000 by omega), (show 18292 + 85786 * k + 85786 + 0 ≤ 7302249 by omega)⟩ (fun r_49 u H locs hw hP hD hS => ?_)
    obtain ⟨w_50, w_51, w_52, w_53, w_54, w_55, w_56, w_57, w_58, w_59, -, rfl⟩ := hw
    have hP : va_P D vwCl (MW cy am (va_up (va_up (va_up (va_up (va_up Jm 19 w_50) 20 w_51) 21 w_52) 22 w_53) 23 w_54) (va_up Im 13 w_55) (va_up (va_up (va_up (va_up Rm 11 w_56) 12 w_57) 13 w_58) 14 w_59) RJm ++ CT cy ax J (va_up (va_up I 10 w_32) 99 w_33) (va_up (va_up O 5 w_34) 100 w_35) (va_up (va_up (va_up R 4 w_36) 5 w_37) 6 w_38) RO (LL_39 ++ Y_40)) H := hP
    have hD : va_D (fun q : Nat => s.heap.size ≤ q) (MW cy am (va_up (va_up (va_up (va_up (va_up Jm 19 w_50) 20 w_51) 21 w_52) 22 w_53) 23 w_54) (va_up Im 13 w_55) (va_up (va_up (va_up (va_up Rm 11 w_56) 12 w_57) 13 w_58) 14 w_59) RJm ++ CT cy ax J (va_up (va_up I 10 w_32) 99 w_33) (va_up (va_up O 5 w_34) 100 w_35) (va_up (va_up (va_up R 4 w_36) 5 w_37) 6 w_38) RO (LL_39 ++ Y_40)) := hD
    refine lv_pop hx hb dL_law_787 rfl ?_
    refine lv_goto (tgt := 1035) hx hb dL_law_788 (by decide) ?_
    refine W.widen (k := 39 + 17 * (k + 1)) (n := 18292 + 85786 * (k + 1)) (show 39 + 17 * k + 17 + 0 ≤ _ by omega) (show 18292 + 85786 * k + 85786 + 0 ≤ _ by omega) ?_
    exact kk (va_up (va_up (va_up (va_up (va_up Jm 19 w_50) 20 w_51) 21 w_52) 22 w_53) 23 w_54) (va_up Im 13 w_55) (va_up (va_up (va_up (va_up Rm 11 w_56) 12 w_57) 13 w_58) 14 w_59) RJm J (va_up (va_up I 10 w_32) 99 w_33) (va_up (va_up O 5 w_34) 100 w_35) (va_up (va_up (va_up R 4 w_36) 5 w_37) 6 w_38) RO LL_39 Y_40 _ _ _ _ _ _ ⟨hMm.1, hMm.2.1, hMm.2.2.1, hMm.2.2.2.1, hMm.2.2.2.2.1, hMm.2.2.2.2.2⟩ ⟨hM.1, hi_44, hi_45, hi_46, hM.2.2.2.2.1, hM.2.2.2.2.2.1, hM.2.2.2.2.2.2.1, hM.2.2.2.2.2.2.2.1, hRO0, hRO1, hRO2, hRO3⟩ hL_42 hp_43 hQ hF hAm hSm (RCf_mono hmono_47 hAc) hSc hG _ _ hP hD hS ls (lv_sub hl [0, 1, 2, 3] rfl)
theorem dL_law_791 : decode cL_law 791 = .ok (.aload_n 1, 1) := by decide +kernel
theorem dL_law_792 : decode cL_law 792 = .ok (.invokevirtual 105, 3) := by decide +kernel
theorem dL_law_795 : decode cL_law 795 = .ok (.pop, 1) := by decide +kernel
theorem dL_law_796 : decode cL_law 796 = .ok (.aload_n 2, 1) := by decide +kernel
theorem dL_law_797 : decode cL_law 797 = .ok (.invokevirtual 108, 3) := by decide +kernel
theorem dL_law_800 : decode cL_law 800 = .ok (.pop, 1) := by decide +kernel
theorem dL_law_801 : decode cL_law 801 = .ok (.goto 234, 3) := by decide +kernel
set_option maxHeartbeats 4000000 in
set_option maxRecDepth 100000 in
theorem law_21 {p : Program} {e : Env} {s : State} {m : MethodId} {below : List Frame} {meth : Method} {c : Code} (l : Launch) {b L : Nat} {xs : Nat → Int32} {D : va_G} {cy : Nat → ClassId} (C0 : lawCtx p s m meth c b L xs D cy) (ax am : Nat → Nat) (k : Nat) (hk : 6 * k + 6 ≤ L) (hL384 : L ≤ 384) (Jm : Nat → Int64) (Im : Nat → Int32) (Rm : Nat → Nat → Int32) (RJm : Nat → Nat → Int64) (J : Nat → Int64) (I : Nat → Int32) (O : Nat → Option Nat) (R : Nat → Nat → Int32) (RO : Nat → Nat → Option Nat) (LL Y : va_W) (fl : Int64) (S : List Int32) (P : List PE) (Bs Zs : Nat → Int32) (Vs : Nat → Nat → Int32) (hMm : MI Im Rm) (hM : CI ax Y I O RO) (hLk : LOK cy (O 5) LL) (hQ6 : ∀ i, i < 81 → vp_in (R 6 i) 81) (hQ : Q64 (R 11)) (hF : Q64 (R 10)) (hAm : RMf (Jm 0) (Im 1) (Im 12) (Rm 1) (Rm 3) (Rm 4) (RJm 2) fl S P) (hSm : RMs (Rm 8) (Rm 9) (Rm 10) Bs Zs Vs) (hAc : RCf Y (J 6) (O 7) (I 9) (RO 2) fl S P) (hSc : RCs (I 385) (I 386) (R 13) (I 449) (I 450) (R 15) (I 513) (I 514) (R 17) (I 577) (I 578) (R 19) Bs Zs Vs) (hG : gAll fl S P) (kk : LK p l e s m below meth c b D cy ax am k (39 + 17 * (k + 1)) (18292 + 85786 * (k + 1)) 1035) (H : Heap) (locs : List Loc) (hP : va_P D vwCl (MW cy am Jm Im Rm RJm ++ CT cy ax J I O R RO (LL ++ Y)) H) (hD : va_D (fun q : Nat => s.heap.size ≤ q) (MW cy am Jm Im Rm RJm ++ CT cy ax J I O R RO (LL ++ Y))) (hS : va_S (fun q : Nat => s.heap.size ≤ q) s.heap H locs) (ls : Array Slot) (hl : lv_has ls 4 [(0, .ref b), (1, .ref (ax 0)), (2, .ref (am 0)), (3, .int (nI (6 * k)))]) : W p l e room_1 s m #[Value.ref b] below meth c H locs (39 + 17 * k) (18292 + 85786 * k) (lw_Z below #[Value.ref b] s) (F0 m 791 ls []) := by
  obtain ⟨⟨hx, hb, hr, hml, hown, hts, hX, hbl, hlocks, hgv⟩, hK, hN⟩ := C0
  have hown : s.vm.findClass RL = some m.cls := hown
  have hA : ∀ q : Nat, s.heap.size ≤ q → (fun q : Nat => s.heap.size ≤ q) q := fun _ h => h
  have hbA : ¬ (fun q : Nat => s.heap.size ≤ q) b := Nat.not_le.mpr hbl
  have hRO0 := hM.2.2.2.2.2.2.2.2.1
  have hRO1 := hM.2.2.2.2.2.2.2.2.2.1
  have hRO2 := hM.2.2.2.2.2.2.2.2.2.2.1
  have hRO3 := hM.2.2.2.2.2.2.2.2.2.2.2
  refine lv_aload_n hx hb dL_law_791 rfl (lv_at hl 1 rfl) ?_
  refine kX_i (As := []) (rest := []) (q0 := 0) ⟨hx, hb, hml, hown, hts⟩ (t_X9_lack l D cy ax _ J I O R RO LL Y  hQ hF  ) (cwV 0 hts gq_X9_lack rfl rfl rfl (by decide +kernel) ⟨Nat.le_of_ble_eq_true rfl, Nat.le_of_ble_eq_true rfl⟩) hK hN hP hD hS hA rfl rfl rfl hl.1 rfl (Nat.le_of_ble_eq_true rfl) dL_law_792 ⟨(show 39 + 17 * k + 0 ≤ 600000 by omega), (show 18292 + 85786 * k + 0 ≤ 7302249 by omega)⟩ (fun r_1 u H locs hw hP hD hS => ?_)
  obtain ⟨w_2, w_3, w_4, w_5, w_6, w_7, w_8, ⟨hp_9, hp_10⟩, rfl⟩ := hw
  have hP : va_P D vwCl (MW cy am Jm Im Rm RJm ++ CT cy ax (va_up (va_up (va_up J 260 w_2) 261 w_3) 262 w_4) (va_up I 259 w_5) O (va_up (va_up (va_up R 9 w_6) 10 w_7) 11 w_8) RO (LL ++ Y)) H := hP
  have hD : va_D (fun q : Nat => s.heap.size ≤ q) (MW cy am Jm Im Rm RJm ++ CT cy ax (va_up (va_up (va_up J 260 w_2) 261 w_3) 262 w_4) (va_up I 259 w_5) O (va_up (va_up (va_up R 9 w_6) 10 w_7) 11 w_8) RO (LL ++ Y)) := hD
  refine lv_pop hx hb dL_law_795 rfl ?_
  refine lv_aload_n hx hb dL_law_796 rfl (lv_at hl 2 rfl) ?_
  refine kV_i (As := []) (rest := []) (q0 := 0) ⟨hx, hb, hml, hown, hts⟩ (t_X10_lack l D cy am _ Jm Im Rm RJm   ) (cwV 0 hts gq_X10_lack rfl rfl rfl (by decide +kernel) ⟨Nat.le_of_ble_eq_true rfl, Nat.le_of_ble_eq_true rfl⟩) hK hN hP hD hS hA rfl rfl rfl hl.1 rfl (Nat.le_of_ble_eq_true rfl) dL_law_797 ⟨(show 39 + 17 * k + 0 + 0 ≤ 600000 by omega), (show 18292 + 85786 * k + 0 + 0 ≤ 7302249 by omega)⟩ (fun r_11 u H locs hw hP hD hS => ?_)
  obtain ⟨w_12, w_13, w_14, -, rfl⟩ := hw
  have hP : va_P D vwCl (MW cy am Jm Im (va_up (va_up (va_up Rm 15 w_12) 16 w_13) 17 w_14) RJm ++ CT cy ax (va_up (va_up (va_up J 260 w_2) 261 w_3) 262 w_4) (va_up I 259 w_5) O (va_up (va_up (va_up R 9 w_6) 10 w_7) 11 w_8) RO (LL ++ Y)) H := hP
  have hD : va_D (fun q : Nat => s.heap.size ≤ q) (MW cy am Jm Im (va_up (va_up (va_up Rm 15 w_12) 16 w_13) 17 w_14) RJm ++ CT cy ax (va_up (va_up (va_up J 260 w_2) 261 w_3) 262 w_4) (va_up I 259 w_5) O (va_up (va_up (va_up R 9 w_6) 10 w_7) 11 w_8) RO (LL ++ Y)) := hD
  refine lv_pop hx hb dL_law_800 rfl ?_
  refine lv_goto (tgt := 1035) hx hb dL_law_801 (by decide) ?_
  refine W.widen (k := 39 + 17 * (k + 1)) (n := 18292 + 85786 * (k + 1)) (show 39 + 17 * k + 0 + 0 ≤ _ by omega) (show 18292 + 85786 * k + 0 + 0 ≤ _ by omega) ?_
  exact kk Jm Im (va_up (va_up (va_up Rm 15 w_12) 16 w_13) 17 w_14) RJm (va_up (va_up (va_up J 260 w_2) 261 w_3) 262 w_4) (va_up I 259 w_5) O (va_up (va_up (va_up R 9 w_6) 10 w_7) 11 w_8) RO LL Y _ _ _ _ _ _ ⟨hMm.1, hMm.2.1, hMm.2.2.1, hMm.2.2.2.1, hMm.2.2.2.2.1, hMm.2.2.2.2.2⟩ ⟨hM.1, hM.2.1, hM.2.2.1, hM.2.2.2.1, hM.2.2.2.2.1, hM.2.2.2.2.2.1, hM.2.2.2.2.2.2.1, hM.2.2.2.2.2.2.2.1, hRO0, hRO1, hRO2, hRO3⟩ hLk hQ6 hp_9 hp_10 hAm hSm hAc hSc hG _ _ hP hD hS ls (lv_sub hl [0, 1, 2, 3] rfl)
theorem dL_law_804 : decode cL_law 804 = .ok (.aload_n 1, 1) := by decide +kernel
theorem dL_law_805 : decode cL_law 805 = .ok (.aload_n 0, 1) := by decide +kernel
theorem dL_law_806 : decode cL_law 806 = .ok (.iload_n 3, 1) := by decide +kernel
theorem dL_law_807 : decode cL_law 807 = .ok (.iconst 1, 1) := by decide +kernel
theorem dL_law_808 : decode cL_law 808 = .ok (.iadd, 1) := by decide +kernel
theorem dL_law_809 : decode cL_law 809 = .ok (.iaload, 1) := by decide +kernel
theorem dL_law_810 : decode cL_law 810 = .ok (.invokevirtual 109, 3) := by decide +kernel
theorem dL_law_813 : decode cL_law 813 = .ok (.pop, 1) := by decide +kernel
theorem dL_law_814 : decode cL_law 814 = .ok (.aload_n 2, 1) := by decide +kernel
theorem dL_law_815 : decode cL_law 815 = .ok (.aload_n 0, 1) := by decide +kernel
theorem dL_law_816 : decode cL_law 816 = .ok (.iload_n 3, 1) := by decide +kernel
theorem dL_law_817 : decode cL_law 817 = .ok (.iconst 1, 1) := by decide +kernel
theorem dL_law_818 : decode cL_law 818 = .ok (.iadd, 1) := by decide +kernel
theorem dL_law_819 : decode cL_law 819 = .ok (.iaload, 1) := by decide +kernel
theorem dL_law_820 : decode cL_law 820 = .ok (.invokevirtual 112, 3) := by decide +kernel
theorem dL_law_823 : decode cL_law 823 = .ok (.pop, 1) := by decide +kernel
theorem dL_law_824 : decode cL_law 824 = .ok (.goto 211, 3) := by decide +kernel
set_option maxHeartbeats 4000000 in
set_option maxRecDepth 100000 in
theorem law_22 {p : Program} {e : Env} {s : State} {m : MethodId} {below : List Frame} {meth : Method} {c : Code} (l : Launch) {b L : Nat} {xs : Nat → Int32} {D : va_G} {cy : Nat → ClassId} (C0 : lawCtx p s m meth c b L xs D cy) (ax am : Nat → Nat) (k : Nat) (hk : 6 * k + 6 ≤ L) (hL384 : L ≤ 384) (Jm : Nat → Int64) (Im : Nat → Int32) (Rm : Nat → Nat → Int32) (RJm : Nat → Nat → Int64) (J : Nat → Int64) (I : Nat → Int32) (O : Nat → Option Nat) (R : Nat → Nat → Int32) (RO : Nat → Nat → Option Nat) (LL Y : va_W) (fl : Int64) (S : List Int32) (P : List PE) (Bs Zs : Nat → Int32) (Vs : Nat → Nat → Int32) (hMm : MI Im Rm) (hM : CI ax Y I O RO) (hLk : LOK cy (O 5) LL) (hQ6 : ∀ i, i < 81 → vp_in (R 6 i) 81) (hQ : Q64 (R 11)) (hF : Q64 (R 10)) (hAm : RMf (Jm 0) (Im 1) (Im 12) (Rm 1) (Rm 3) (Rm 4) (RJm 2) fl S P) (hSm : RMs (Rm 8) (Rm 9) (Rm 10) Bs Zs Vs) (hAc : RCf Y (J 6) (O 7) (I 9) (RO 2) fl S P) (hSc : RCs (I 385) (I 386) (R 13) (I 449) (I 450) (R 15) (I 513) (I 514) (R 17) (I 577) (I 578) (R 19) Bs Zs Vs) (hG : gAll fl S P) (kk : LK p l e s m below meth c b D cy ax am k (39 + 17 * (k + 1)) (18292 + 85786 * (k + 1)) 1035) (H : Heap) (locs : List Loc) (hP : va_P D vwCl (MW cy am Jm Im Rm RJm ++ CT cy ax J I O R RO (LL ++ Y)) H) (hD : va_D (fun q : Nat => s.heap.size ≤ q) (MW cy am Jm Im Rm RJm ++ CT cy ax J I O R RO (LL ++ Y))) (hS : va_S (fun q : Nat => s.heap.size ≤ q) s.heap H locs) (ls : Array Slot) (hl : lv_has ls 4 [(0, .ref b), (1, .ref (ax 0)), (2, .ref (am 0)), (3, .int (nI (6 * k)))]) : W p l e room_1 s m #[Value.ref b] below meth c H locs (39 + 17 * k) (18292 + 85786 * k) (lw_Z below #[Value.ref b] s) (F0 m 804 ls []) := by
  obtain ⟨⟨hx, hb, hr, hml, hown, hts, hX, hbl, hlocks, hgv⟩, hK, hN⟩ := C0
  have hown : s.vm.findClass RL = some m.cls := hown
  have hA : ∀ q : Nat, s.heap.size ≤ q → (fun q : Nat => s.heap.size ≤ q) q := fun _ h => h
  have hbA : ¬ (fun q : Nat => s.heap.size ≤ q) b := Nat.not_le.mpr hbl
  have hRO0 := hM.2.2.2.2.2.2.2.2.1
  have hRO1 := hM.2.2.2.2.2.2.2.2.2.1
  have hRO2 := hM.2.2.2.2.2.2.2.2.2.2.1
  have hRO3 := hM.2.2.2.2.2.2.2.2.2.2.2
  refine lv_aload_n hx hb dL_law_804 rfl (lv_at hl 1 rfl) ?_
  refine lv_aload_n hx hb dL_law_805 rfl (lv_at hl 0 rfl) ?_
  refine lv_iload_n hx hb dL_law_806 rfl (lv_at hl 3 rfl) ?_
  refine lv_iconst (v := 1) hx hb dL_law_807 (by decide) ?_
  refine lv_iadd hx hb dL_law_808 ?_
  refine wtop_i (y := nI (6 * k + 1)) (by rw [← nI_add]; rfl) ?_
  refine va_sld hx hb hX hbl hbA hS (vp_in_nI (show 6 * k + 1 < L by omega) (by omega)) dL_law_809 ?_
  refine wtop_i (y := xs (6 * k + 1)) (by rw [nI_clamp (show 6 * k + 1 < 2 ^ 31 by omega)]) ?_
  refine kX_i (As := [.int (xs (6 * k + 1))]) (rest := []) (q0 := 0) ⟨hx, hb, hml, hown, hts⟩ (t_X9_lacking l D cy ax _ J I O R RO LL Y (xs (6 * k + 1)) hQ hF  ) (cwV 1 hts gq_X9_lacking rfl rfl rfl (by decide +kernel) ⟨Nat.le_of_ble_eq_true rfl, Nat.le_of_ble_eq_true rfl⟩) hK hN hP hD hS hA rfl rfl rfl hl.1 rfl (Nat.le_of_ble_eq_true rfl) dL_law_810 ⟨(show 39 + 17 * k + 0 ≤ 600000 by omega), (show 18292 + 85786 * k + 0 ≤ 7302249 by omega)⟩ (fun r_1 u H locs hw hP hD hS => ?_)
  obtain ⟨w_2, w_3, w_4, w_5, w_6, w_7, w_8, w_9, ⟨hp_10, hp_11⟩, rfl⟩ := hw
  have hP : va_P D vwCl (MW cy am Jm Im Rm RJm ++ CT cy ax (va_up (va_up (va_up J 260 w_2) 261 w_3) 262 w_4) (va_up (va_up I 10 w_5) 259 w_6) O (va_up (va_up (va_up R 9 w_7) 10 w_8) 11 w_9) RO (LL ++ Y)) H := hP
  have hD : va_D (fun q : Nat => s.heap.size ≤ q) (MW cy am Jm Im Rm RJm ++ CT cy ax (va_up (va_up (va_up J 260 w_2) 261 w_3) 262 w_4) (va_up (va_up I 10 w_5) 259 w_6) O (va_up (va_up (va_up R 9 w_7) 10 w_8) 11 w_9) RO (LL ++ Y)) := hD
  refine lv_pop hx hb dL_law_813 rfl ?_
  refine lv_aload_n hx hb dL_law_814 rfl (lv_at hl 2 rfl) ?_
  refine lv_aload_n hx hb dL_law_815 rfl (lv_at hl 0 rfl) ?_
  refine lv_iload_n hx hb dL_law_816 rfl (lv_at hl 3 rfl) ?_
  refine lv_iconst (v := 1) hx hb dL_law_817 (by decide) ?_
  refine lv_iadd hx hb dL_law_818 ?_
  refine wtop_i (y := nI (6 * k + 1)) (by rw [← nI_add]; rfl) ?_
  refine va_sld hx hb hX hbl hbA hS (vp_in_nI (show 6 * k + 1 < L by omega) (by omega)) dL_law_819 ?_
  refine wtop_i (y := xs (6 * k + 1)) (by rw [nI_clamp (show 6 * k + 1 < 2 ^ 31 by omega)]) ?_
  refine kV_i (As := [.int (xs (6 * k + 1))]) (rest := []) (q0 := 0) ⟨hx, hb, hml, hown, hts⟩ (t_X10_lacking l D cy am _ Jm Im Rm RJm (xs (6 * k + 1))  ⟨hMm.1, hMm.2.1, hMm.2.2.1, hMm.2.2.2.1, hMm.2.2.2.2.1, hMm.2.2.2.2.2⟩) (cwV 1 hts gq_X10_lacking rfl rfl rfl (by decide +kernel) ⟨Nat.le_of_ble_eq_true rfl, Nat.le_of_ble_eq_true rfl⟩) hK hN hP hD hS hA rfl rfl rfl hl.1 rfl (Nat.le_of_ble_eq_true rfl) dL_law_820 ⟨(show 39 + 17 * k + 0 + 0 ≤ 600000 by omega), (show 18292 + 85786 * k + 0 + 0 ≤ 7302249 by omega)⟩ (fun r_12 u H locs hw hP hD hS => ?_)
  obtain ⟨w_13, w_14, w_15, w_16, -, rfl⟩ := hw
  have hP : va_P D vwCl (MW cy am Jm (va_up Im 13 w_13) (va_up (va_up (va_up Rm 15 w_14) 16 w_15) 17 w_16) RJm ++ CT cy ax (va_up (va_up (va_up J 260 w_2) 261 w_3) 262 w_4) (va_up (va_up I 10 w_5) 259 w_6) O (va_up (va_up (va_up R 9 w_7) 10 w_8) 11 w_9) RO (LL ++ Y)) H := hP
  have hD : va_D (fun q : Nat => s.heap.size ≤ q) (MW cy am Jm (va_up Im 13 w_13) (va_up (va_up (va_up Rm 15 w_14) 16 w_15) 17 w_16) RJm ++ CT cy ax (va_up (va_up (va_up J 260 w_2) 261 w_3) 262 w_4) (va_up (va_up I 10 w_5) 259 w_6) O (va_up (va_up (va_up R 9 w_7) 10 w_8) 11 w_9) RO (LL ++ Y)) := hD
  refine lv_pop hx hb dL_law_823 rfl ?_
  refine lv_goto (tgt := 1035) hx hb dL_law_824 (by decide) ?_
  refine W.widen (k := 39 + 17 * (k + 1)) (n := 18292 + 85786 * (k + 1)) (show 39 + 17 * k + 0 + 0 ≤ _ by omega) (show 18292 + 85786 * k + 0 + 0 ≤ _ by omega) ?_
  exact kk Jm (va_up Im 13 w_13) (va_up (va_up (va_up Rm 15 w_14) 16 w_15) 17 w_16) RJm (va_up (va_up (va_up J 260 w_2) 261 w_3) 262 w_4) (va_up (va_up I 10 w_5) 259 w_6) O (va_up (va_up (va_up R 9 w_7) 10 w_8) 11 w_9) RO LL Y _ _ _ _ _ _ ⟨hMm.1, hMm.2.1, hMm.2.2.1, hMm.2.2.2.1, hMm.2.2.2.2.1, hMm.2.2.2.2.2⟩ ⟨hM.1, hM.2.1, hM.2.2.1, hM.2.2.2.1, hM.2.2.2.2.1, hM.2.2.2.2.2.1, hM.2.2.2.2.2.2.1, hM.2.2.2.2.2.2.2.1, hRO0, hRO1, hRO2, hRO3⟩ hLk hQ6 hp_10 hp_11 hAm hSm hAc hSc hG _ _ hP hD hS ls (lv_sub hl [0, 1, 2, 3] rfl)
theorem dL_law_827 : decode cL_law 827 = .ok (.aload_n 1, 1) := by decide +kernel
theorem dL_law_828 : decode cL_law 828 = .ok (.aload_n 0, 1) := by decide +kernel
theorem dL_law_829 : decode cL_law 829 = .ok (.iload_n 3, 1) := by decide +kernel
theorem dL_law_830 : decode cL_law 830 = .ok (.iconst 1, 1) := by decide +kernel
theorem dL_law_831 : decode cL_law 831 = .ok (.iadd, 1) := by decide +kernel
theorem dL_law_832 : decode cL_law 832 = .ok (.iaload, 1) := by decide +kernel
theorem dL_law_833 : decode cL_law 833 = .ok (.aload_n 0, 1) := by decide +kernel
theorem dL_law_834 : decode cL_law 834 = .ok (.iload_n 3, 1) := by decide +kernel
theorem dL_law_835 : decode cL_law 835 = .ok (.iconst 2, 1) := by decide +kernel
theorem dL_law_836 : decode cL_law 836 = .ok (.iadd, 1) := by decide +kernel
theorem dL_law_837 : decode cL_law 837 = .ok (.iaload, 1) := by decide +kernel
theorem dL_law_838 : decode cL_law 838 = .ok (.aload_n 0, 1) := by decide +kernel
theorem dL_law_839 : decode cL_law 839 = .ok (.iload_n 3, 1) := by decide +kernel
theorem dL_law_840 : decode cL_law 840 = .ok (.iconst 3, 1) := by decide +kernel
theorem dL_law_841 : decode cL_law 841 = .ok (.iadd, 1) := by decide +kernel
theorem dL_law_842 : decode cL_law 842 = .ok (.iaload, 1) := by decide +kernel
theorem dL_law_843 : decode cL_law 843 = .ok (.invokevirtual 113, 3) := by decide +kernel
theorem dL_law_846 : decode cL_law 846 = .ok (.pop, 1) := by decide +kernel
theorem dL_law_847 : decode cL_law 847 = .ok (.aload_n 2, 1) := by decide +kernel
theorem dL_law_848 : decode cL_law 848 = .ok (.aload_n 0, 1) := by decide +kernel
theorem dL_law_849 : decode cL_law 849 = .ok (.iload_n 3, 1) := by decide +kernel
theorem dL_law_850 : decode cL_law 850 = .ok (.iconst 1, 1) := by decide +kernel
theorem dL_law_851 : decode cL_law 851 = .ok (.iadd, 1) := by decide +kernel
theorem dL_law_852 : decode cL_law 852 = .ok (.iaload, 1) := by decide +kernel
theorem dL_law_853 : decode cL_law 853 = .ok (.aload_n 0, 1) := by decide +kernel
theorem dL_law_854 : decode cL_law 854 = .ok (.iload_n 3, 1) := by decide +kernel
theorem dL_law_855 : decode cL_law 855 = .ok (.iconst 2, 1) := by decide +kernel
theorem dL_law_856 : decode cL_law 856 = .ok (.iadd, 1) := by decide +kernel
theorem dL_law_857 : decode cL_law 857 = .ok (.iaload, 1) := by decide +kernel
theorem dL_law_858 : decode cL_law 858 = .ok (.aload_n 0, 1) := by decide +kernel
theorem dL_law_859 : decode cL_law 859 = .ok (.iload_n 3, 1) := by decide +kernel
theorem dL_law_860 : decode cL_law 860 = .ok (.iconst 3, 1) := by decide +kernel
theorem dL_law_861 : decode cL_law 861 = .ok (.iadd, 1) := by decide +kernel
theorem dL_law_862 : decode cL_law 862 = .ok (.iaload, 1) := by decide +kernel
theorem dL_law_863 : decode cL_law 863 = .ok (.invokevirtual 116, 3) := by decide +kernel
theorem dL_law_866 : decode cL_law 866 = .ok (.pop, 1) := by decide +kernel
theorem dL_law_867 : decode cL_law 867 = .ok (.goto 168, 3) := by decide +kernel
set_option maxHeartbeats 4000000 in
set_option maxRecDepth 100000 in
theorem law_23 {p : Program} {e : Env} {s : State} {m : MethodId} {below : List Frame} {meth : Method} {c : Code} (l : Launch) {b L : Nat} {xs : Nat → Int32} {D : va_G} {cy : Nat → ClassId} (C0 : lawCtx p s m meth c b L xs D cy) (ax am : Nat → Nat) (k : Nat) (hk : 6 * k + 6 ≤ L) (hL384 : L ≤ 384) (Jm : Nat → Int64) (Im : Nat → Int32) (Rm : Nat → Nat → Int32) (RJm : Nat → Nat → Int64) (J : Nat → Int64) (I : Nat → Int32) (O : Nat → Option Nat) (R : Nat → Nat → Int32) (RO : Nat → Nat → Option Nat) (LL Y : va_W) (fl : Int64) (S : List Int32) (P : List PE) (Bs Zs : Nat → Int32) (Vs : Nat → Nat → Int32) (hMm : MI Im Rm) (hM : CI ax Y I O RO) (hLk : LOK cy (O 5) LL) (hQ6 : ∀ i, i < 81 → vp_in (R 6 i) 81) (hQ : Q64 (R 11)) (hF : Q64 (R 10)) (hAm : RMf (Jm 0) (Im 1) (Im 12) (Rm 1) (Rm 3) (Rm 4) (RJm 2) fl S P) (hSm : RMs (Rm 8) (Rm 9) (Rm 10) Bs Zs Vs) (hAc : RCf Y (J 6) (O 7) (I 9) (RO 2) fl S P) (hSc : RCs (I 385) (I 386) (R 13) (I 449) (I 450) (R 15) (I 513) (I 514) (R 17) (I 577) (I 578) (R 19) Bs Zs Vs) (hG : gAll fl S P) (kk : LK p l e s m below meth c b D cy ax am k (39 + 17 * (k + 1)) (18292 + 85786 * (k + 1)) 1035) (H : Heap) (locs : List Loc) (hP : va_P D vwCl (MW cy am Jm Im Rm RJm ++ CT cy ax J I O R RO (LL ++ Y)) H) (hD : va_D (fun q : Nat => s.heap.size ≤ q) (MW cy am Jm Im Rm RJm ++ CT cy ax J I O R RO (LL ++ Y))) (hS : va_S (fun q : Nat => s.heap.size ≤ q) s.heap H locs) (ls : Array Slot) (hl : lv_has ls 4 [(0, .ref b), (1, .ref (ax 0)), (2, .ref (am 0)), (3, .int (nI (6 * k)))]) : W p l e room_1 s m #[Value.ref b] below meth c H locs (39 + 17 * k) (18292 + 85786 * k) (lw_Z below #[Value.ref b] s) (F0 m 827 ls []) := by
  obtain ⟨⟨hx, hb, hr, hml, hown, hts, hX, hbl, hlocks, hgv⟩, hK, hN⟩ := C0
  have hown : s.vm.findClass RL = some m.cls := hown
  have hA : ∀ q : Nat, s.heap.size ≤ q → (fun q : Nat => s.heap.size ≤ q) q := fun _ h => h
  have hbA : ¬ (fun q : Nat => s.heap.size ≤ q) b := Nat.not_le.mpr hbl
  have hRO0 := hM.2.2.2.2.2.2.2.2.1
  have hRO1 := hM.2.2.2.2.2.2.2.2.2.1
  have hRO2 := hM.2.2.2.2.2.2.2.2.2.2.1
  have hRO3 := hM.2.2.2.2.2.2.2.2.2.2.2
  refine lv_aload_n hx hb dL_law_827 rfl (lv_at hl 1 rfl) ?_
  refine lv_aload_n hx hb dL_law_828 rfl (lv_at hl 0 rfl) ?_
  refine lv_iload_n hx hb dL_law_829 rfl (lv_at hl 3 rfl) ?_
  refine lv_iconst (v := 1) hx hb dL_law_830 (by decide) ?_
  refine lv_iadd hx hb dL_law_831 ?_
  refine wtop_i (y := nI (6 * k + 1)) (by rw [← nI_add]; rfl) ?_
  refine va_sld hx hb hX hbl hbA hS (vp_in_nI (show 6 * k + 1 < L by omega) (by omega)) dL_law_832 ?_
  refine wtop_i (y := xs (6 * k + 1)) (by rw [nI_clamp (show 6 * k + 1 < 2 ^ 31 by omega)]) ?_
  refine lv_aload_n hx hb dL_law_833 rfl (lv_at hl 0 rfl) ?_
  refine lv_iload_n hx hb dL_law_834 rfl (lv_at hl 3 rfl) ?_
  refine lv_iconst (v := 2) hx hb dL_law_835 (by decide) ?_
  refine lv_iadd hx hb dL_law_836 ?_
  refine wtop_i (y := nI (6 * k + 2)) (by rw [← nI_add]; rfl) ?_
  refine va_sld hx hb hX hbl hbA hS (vp_in_nI (show 6 * k + 2 < L by omega) (by omega)) dL_law_837 ?_
  refine wtop_i (y := xs (6 * k + 2)) (by rw [nI_clamp (show 6 * k + 2 < 2 ^ 31 by omega)]) ?_
  refine lv_aload_n hx hb dL_law_838 rfl (lv_at hl 0 rfl) ?_
  refine lv_iload_n hx hb dL_law_839 rfl (lv_at hl 3 rfl) ?_
  refine lv_iconst (v := 3) hx hb dL_law_840 (by decide) ?_
  refine lv_iadd hx hb dL_law_841 ?_
  refine wtop_i (y := nI (6 * k + 3)) (by rw [← nI_add]; rfl) ?_
  refine va_sld hx hb hX hbl hbA hS (vp_in_nI (show 6 * k + 3 < L by omega) (by omega)) dL_law_842 ?_
  refine wtop_i (y := xs (6 * k + 3)) (by rw [nI_clamp (show 6 * k + 3 < 2 ^ 31 by omega)]) ?_
  refine kX_i (As := [.int (xs (6 * k + 1)), .int (xs (6 * k + 2)), .int (xs (6 * k + 3))]) (rest := []) (q0 := 0) ⟨hx, hb, hml, hown, hts⟩ (x_X9_sheet l D cy ax _ J I O R RO LL Y (xs (6 * k + 1)) (xs (6 * k + 2)) (xs (6 * k + 3)) Bs Zs Vs hSc ⟨hM.1, hM.2.1, hM.2.2.1, hM.2.2.2.1, hM.2.2.2.2.1, hM.2.2.2.2.2.1, hM.2.2.2.2.2.2.1, hM.2.2.2.2.2.2.2.1, hRO0, hRO1, hRO2, hRO3⟩ ) (cwV 3 hts gq_X9_sheet rfl rfl rfl (by decide +kernel) ⟨Nat.le_of_ble_eq_true rfl, Nat.le_of_ble_eq_true rfl⟩) hK hN hP hD hS hA rfl rfl rfl hl.1 rfl (Nat.le_of_ble_eq_true rfl) dL_law_843 ⟨(show 39 + 17 * k + 0 ≤ 600000 by omega), (show 18292 + 85786 * k + 0 ≤ 7302249 by omega)⟩ (fun r_1 u H locs hw hP hD hS => ?_)
  obtain ⟨w_2, w_3, w_4, w_5, w_6, w_7, w_8, w_9, w_10, w_11, w_12, w_13, w_14, ⟨rfl, hi_15, hi_16, hi_17, hi_18, hp_19⟩, rfl⟩ := hw
  have hP : va_P D vwCl (MW cy am Jm Im Rm RJm ++ CT cy ax J (va_up (va_up (va_up (va_up (va_up (va_up (va_up (va_up (va_up I 10 w_2) 385 w_3) 386 w_4) 449 w_5) 450 w_6) 513 w_7) 514 w_8) 577 w_9) 578 w_10) O (va_up (va_up (va_up (va_up R 13 w_11) 15 w_12) 17 w_13) 19 w_14) RO (LL ++ Y)) H := hP
  have hD : va_D (fun q : Nat => s.heap.size ≤ q) (MW cy am Jm Im Rm RJm ++ CT cy ax J (va_up (va_up (va_up (va_up (va_up (va_up (va_up (va_up (va_up I 10 w_2) 385 w_3) 386 w_4) 449 w_5) 450 w_6) 513 w_7) 514 w_8) 577 w_9) 578 w_10) O (va_up (va_up (va_up (va_up R 13 w_11) 15 w_12) 17 w_13) 19 w_14) RO (LL ++ Y)) := hD
  refine lv_pop hx hb dL_law_846 rfl ?_
  refine lv_aload_n hx hb dL_law_847 rfl (lv_at hl 2 rfl) ?_
  refine lv_aload_n hx hb dL_law_848 rfl (lv_at hl 0 rfl) ?_
  refine lv_iload_n hx hb dL_law_849 rfl (lv_at hl 3 rfl) ?_
  refine lv_iconst (v := 1) hx hb dL_law_850 (by decide) ?_
  refine lv_iadd hx hb dL_law_851 ?_
  refine wtop_i (y := nI (6 * k + 1)) (by rw [← nI_add]; rfl) ?_
  refine va_sld hx hb hX hbl hbA hS (vp_in_nI (show 6 * k + 1 < L by omega) (by omega)) dL_law_852 ?_
  refine wtop_i (y := xs (6 * k + 1)) (by rw [nI_clamp (show 6 * k + 1 < 2 ^ 31 by omega)]) ?_
  refine lv_aload_n hx hb dL_law_853 rfl (lv_at hl 0 rfl) ?_
  refine lv_iload_n hx hb dL_law_854 rfl (lv_at hl 3 rfl) ?_
  refine lv_iconst (v := 2) hx hb dL_law_855 (by decide) ?_
  refine lv_iadd hx hb dL_law_856 ?_
  refine wtop_i (y := nI (6 * k + 2)) (by rw [← nI_add]; rfl) ?_
  refine va_sld hx hb hX hbl hbA hS (vp_in_nI (show 6 * k + 2 < L by omega) (by omega)) dL_law_857 ?_
  refine wtop_i (y := xs (6 * k + 2)) (by rw [nI_clamp (show 6 * k + 2 < 2 ^ 31 by omega)]) ?_
  refine lv_aload_n hx hb dL_law_858 rfl (lv_at hl 0 rfl) ?_
  refine lv_iload_n hx hb dL_law_859 rfl (lv_at hl 3 rfl) ?_
  refine lv_iconst (v := 3) hx hb dL_law_860 (by decide) ?_
  refine lv_iadd hx hb dL_law_861 ?_
  refine wtop_i (y := nI (6 * k + 3)) (by rw [← nI_add]; rfl) ?_
  refine va_sld hx hb hX hbl hbA hS (vp_in_nI (show 6 * k + 3 < L by omega) (by omega)) dL_law_862 ?_
  refine wtop_i (y := xs (6 * k + 3)) (by rw [nI_clamp (show 6 * k + 3 < 2 ^ 31 by omega)]) ?_
  refine kV_i (As := [.int (xs (6 * k + 1)), .int (xs (6 * k + 2)), .int (xs (6 * k + 3))]) (rest := []) (q0 := 0) ⟨hx, hb, hml, hown, hts⟩ (x_X10_sheet l D cy am _ Jm Im Rm RJm (xs (6 * k + 1)) (xs (6 * k + 2)) (xs (6 * k + 3)) Bs Zs Vs hSm ⟨hMm.1, hMm.2.1, hMm.2.2.1, hMm.2.2.2.1, hMm.2.2.2.2.1, hMm.2.2.2.2.2⟩) (cwV 3 hts gq_X10_sheet rfl rfl rfl (by decide +kernel) ⟨Nat.le_of_ble_eq_true rfl, Nat.le_of_ble_eq_true rfl⟩) hK hN hP hD hS hA rfl rfl rfl hl.1 rfl (Nat.le_of_ble_eq_true rfl) dL_law_863 ⟨(show 39 + 17 * k + 0 + 0 ≤ 600000 by omega), (show 18292 + 85786 * k + 0 + 0 ≤ 7302249 by omega)⟩ (fun r_20 u H locs hw hP hD hS => ?_)
  obtain ⟨w_21, w_22, w_23, w_24, ⟨rfl, hi_25, hp_26⟩, rfl⟩ := hw
  have hP : va_P D vwCl (MW cy am Jm (va_up Im 13 w_21) (va_up (va_up (va_up Rm 8 w_22) 9 w_23) 10 w_24) RJm ++ CT cy ax J (va_up (va_up (va_up (va_up (va_up (va_up (va_up (va_up (va_up I 10 w_2) 385 w_3) 386 w_4) 449 w_5) 450 w_6) 513 w_7) 514 w_8) 577 w_9) 578 w_10) O (va_up (va_up (va_up (va_up R 13 w_11) 15 w_12) 17 w_13) 19 w_14) RO (LL ++ Y)) H := hP
  have hD : va_D (fun q : Nat => s.heap.size ≤ q) (MW cy am Jm (va_up Im 13 w_21) (va_up (va_up (va_up Rm 8 w_22) 9 w_23) 10 w_24) RJm ++ CT cy ax J (va_up (va_up (va_up (va_up (va_up (va_up (va_up (va_up (va_up I 10 w_2) 385 w_3) 386 w_4) 449 w_5) 450 w_6) 513 w_7) 514 w_8) 577 w_9) 578 w_10) O (va_up (va_up (va_up (va_up R 13 w_11) 15 w_12) 17 w_13) 19 w_14) RO (LL ++ Y)) := hD
  refine lv_pop hx hb dL_law_866 rfl ?_
  refine lv_goto (tgt := 1035) hx hb dL_law_867 (by decide) ?_
  refine W.widen (k := 39 + 17 * (k + 1)) (n := 18292 + 85786 * (k + 1)) (show 39 + 17 * k + 0 + 0 ≤ _ by omega) (show 18292 + 85786 * k + 0 + 0 ≤ _ by omega) ?_
  exact kk Jm (va_up Im 13 w_21) (va_up (va_up (va_up Rm 8 w_22) 9 w_23) 10 w_24) RJm J (va_up (va_up (va_up (va_up (va_up (va_up (va_up (va_up (va_up I 10 w_2) 385 w_3) 386 w_4) 449 w_5) 450 w_6) 513 w_7) 514 w_8) 577 w_9) 578 w_10) O (va_up (va_up (va_up (va_up R 13 w_11) 15 w_12) 17 w_13) 19 w_14) RO LL Y _ _ _ _ _ _ ⟨hMm.1, hMm.2.1, hMm.2.2.1, hMm.2.2.2.1, hMm.2.2.2.2.1, hi_25⟩ ⟨hM.1, hM.2.1, hM.2.2.1, hM.2.2.2.1, hi_15, hi_16, hi_17, hi_18, hRO0, hRO1, hRO2, hRO3⟩ hLk hQ6 hQ hF hAm hp_26 hAc hp_19 hG _ _ hP hD hS ls (lv_sub hl [0, 1, 2, 3] rfl)
theorem dL_law_870 : decode cL_law 870 = .ok (.aload_n 1, 1) := by decide +kernel
theorem dL_law_871 : decode cL_law 871 = .ok (.aload_n 0, 1) := by decide +kernel
theorem dL_law_872 : decode cL_law 872 = .ok (.iload_n 3, 1) := by decide +kernel
theorem dL_law_873 : decode cL_law 873 = .ok (.iconst 1, 1) := by decide +kernel
theorem dL_law_874 : decode cL_law 874 = .ok (.iadd, 1) := by decide +kernel
theorem dL_law_875 : decode cL_law 875 = .ok (.iaload, 1) := by decide +kernel
theorem dL_law_876 : decode cL_law 876 = .ok (.aload_n 0, 1) := by decide +kernel
theorem dL_law_877 : decode cL_law 877 = .ok (.iload_n 3, 1) := by decide +kernel
theorem dL_law_878 : decode cL_law 878 = .ok (.iconst 2, 1) := by decide +kernel
theorem dL_law_879 : decode cL_law 879 = .ok (.iadd, 1) := by decide +kernel
theorem dL_law_880 : decode cL_law 880 = .ok (.iaload, 1) := by decide +kernel
theorem dL_law_881 : decode cL_law 881 = .ok (.aload_n 0, 1) := by decide +kernel
theorem dL_law_882 : decode cL_law 882 = .ok (.iload_n 3, 1) := by decide +kernel
theorem dL_law_883 : decode cL_law 883 = .ok (.iconst 3, 1) := by decide +kernel
theorem dL_law_884 : decode cL_law 884 = .ok (.iadd, 1) := by decide +kernel
theorem dL_law_885 : decode cL_law 885 = .ok (.iaload, 1) := by decide +kernel
theorem dL_law_886 : decode cL_law 886 = .ok (.invokevirtual 117, 3) := by decide +kernel
theorem dL_law_889 : decode cL_law 889 = .ok (.pop, 1) := by decide +kernel
theorem dL_law_890 : decode cL_law 890 = .ok (.aload_n 2, 1) := by decide +kernel
theorem dL_law_891 : decode cL_law 891 = .ok (.aload_n 0, 1) := by decide +kernel
theorem dL_law_892 : decode cL_law 892 = .ok (.iload_n 3, 1) := by decide +kernel
theorem dL_law_893 : decode cL_law 893 = .ok (.iconst 1, 1) := by decide +kernel
theorem dL_law_894 : decode cL_law 894 = .ok (.iadd, 1) := by decide +kernel
theorem dL_law_895 : decode cL_law 895 = .ok (.iaload, 1) := by decide +kernel
theorem dL_law_896 : decode cL_law 896 = .ok (.aload_n 0, 1) := by decide +kernel
theorem dL_law_897 : decode cL_law 897 = .ok (.iload_n 3, 1) := by decide +kernel
theorem dL_law_898 : decode cL_law 898 = .ok (.iconst 2, 1) := by decide +kernel
theorem dL_law_899 : decode cL_law 899 = .ok (.iadd, 1) := by decide +kernel
theorem dL_law_900 : decode cL_law 900 = .ok (.iaload, 1) := by decide +kernel
theorem dL_law_901 : decode cL_law 901 = .ok (.aload_n 0, 1) := by decide +kernel
theorem dL_law_902 : decode cL_law 902 = .ok (.iload_n 3, 1) := by decide +kernel
theorem dL_law_903 : decode cL_law 903 = .ok (.iconst 3, 1) := by decide +kernel
theorem dL_law_904 : decode cL_law 904 = .ok (.iadd, 1) := by decide +kernel
theorem dL_law_905 : decode cL_law 905 = .ok (.iaload, 1) := by decide +kernel
theorem dL_law_906 : decode cL_law 906 = .ok (.invokevirtual 120, 3) := by decide +kernel
theorem dL_law_909 : decode cL_law 909 = .ok (.pop, 1) := by decide +kernel
theorem dL_law_910 : decode cL_law 910 = .ok (.goto 125, 3) := by decide +kernel
set_option maxHeartbeats 4000000 in
set_option maxRecDepth 100000 in
theorem law_24 {p : Program} {e : Env} {s : State} {m : MethodId} {below : List Frame} {meth : Method} {c : Code} (l : Launch) {b L : Nat} {xs : Nat → Int32} {D : va_G} {cy : Nat → ClassId} (C0 : lawCtx p s m meth c b L xs D cy) (ax am : Nat → Nat) (k : Nat) (hk : 6 * k + 6 ≤ L) (hL384 : L ≤ 384) (Jm : Nat → Int64) (Im : Nat → Int32) (Rm : Nat → Nat → Int32) (RJm : Nat → Nat → Int64) (J : Nat → Int64) (I : Nat → Int32) (O : Nat → Option Nat) (R : Nat → Nat → Int32) (RO : Nat → Nat → Option Nat) (LL Y : va_W) (fl : Int64) (S : List Int32) (P : List PE) (Bs Zs : Nat → Int32) (Vs : Nat → Nat → Int32) (hMm : MI Im Rm) (hM : CI ax Y I O RO) (hLk : LOK cy (O 5) LL) (hQ6 : ∀ i, i < 81 → vp_in (R 6 i) 81) (hQ : Q64 (R 11)) (hF : Q64 (R 10)) (hAm : RMf (Jm 0) (Im 1) (Im 12) (Rm 1) (Rm 3) (Rm 4) (RJm 2) fl S P) (hSm : RMs (Rm 8) (Rm 9) (Rm 10) Bs Zs Vs) (hAc : RCf Y (J 6) (O 7) (I 9) (RO 2) fl S P) (hSc : RCs (I 385) (I 386) (R 13) (I 449) (I 450) (R 15) (I 513) (I 514) (R 17) (I 577) (I 578) (R 19) Bs Zs Vs) (hG : gAll fl S P) (kk : LK p l e s m below meth c b D cy ax am k (39 + 17 * (k + 1)) (18292 + 85786 * (k + 1)) 1035) (H : Heap) (locs : List Loc) (hP : va_P D vwCl (MW cy am Jm Im Rm RJm ++ CT cy ax J I O R RO (LL ++ Y)) H) (hD : va_D (fun q : Nat => s.heap.size ≤ q) (MW cy am Jm Im Rm RJm ++ CT cy ax J I O R RO (LL ++ Y))) (hS : va_S (fun q : Nat => s.heap.size ≤ q) s.heap H locs) (ls : Array Slot) (hl : lv_has ls 4 [(0, .ref b), (1, .ref (ax 0)), (2, .ref (am 0)), (3, .int (nI (6 * k)))]) : W p l e room_1 s m #[Value.ref b] below meth c H locs (39 + 17 * k) (18292 + 85786 * k) (lw_Z below #[Value.ref b] s) (F0 m 870 ls []) := by
  obtain ⟨⟨hx, hb, hr, hml, hown, hts, hX, hbl, hlocks, hgv⟩, hK, hN⟩ := C0
  have hown : s.vm.findClass RL = some m.cls := hown
  have hA : ∀ q : Nat, s.heap.size ≤ q → (fun q : Nat => s.heap.size ≤ q) q := fun _ h => h
  have hbA : ¬ (fun q : Nat => s.heap.size ≤ q) b := Nat.not_le.mpr hbl
  have hRO0 := hM.2.2.2.2.2.2.2.2.1
  have hRO1 := hM.2.2.2.2.2.2.2.2.2.1
  have hRO2 := hM.2.2.2.2.2.2.2.2.2.2.1
  have hRO3 := hM.2.2.2.2.2.2.2.2.2.2.2
  refine lv_aload_n hx hb dL_law_870 rfl (lv_at hl 1 rfl) ?_
  refine lv_aload_n hx hb dL_law_871 rfl (lv_at hl 0 rfl) ?_
  refine lv_iload_n hx hb dL_law_872 rfl (lv_at hl 3 rfl) ?_
  refine lv_iconst (v := 1) hx hb dL_law_873 (by decide) ?_
  refine lv_iadd hx hb dL_law_874 ?_
  refine wtop_i (y := nI (6 * k + 1)) (by rw [← nI_add]; rfl) ?_
  refine va_sld hx hb hX hbl hbA hS (vp_in_nI (show 6 * k + 1 < L by omega) (by omega)) dL_law_875 ?_
  refine wtop_i (y := xs (6 * k + 1)) (by rw [nI_clamp (show 6 * k + 1 < 2 ^ 31 by omega)]) ?_
  refine lv_aload_n hx hb dL_law_876 rfl (lv_at hl 0 rfl) ?_
  refine lv_iload_n hx hb dL_law_877 rfl (lv_at hl 3 rfl) ?_
  refine lv_iconst (v := 2) hx hb dL_law_878 (by decide) ?_
  refine lv_iadd hx hb dL_law_879 ?_
  refine wtop_i (y := nI (6 * k + 2)) (by rw [← nI_add]; rfl) ?_
  refine va_sld hx hb hX hbl hbA hS (vp_in_nI (show 6 * k + 2 < L by omega) (by omega)) dL_law_880 ?_
  refine wtop_i (y := xs (6 * k + 2)) (by rw [nI_clamp (show 6 * k + 2 < 2 ^ 31 by omega)]) ?_
  refine lv_aload_n hx hb dL_law_881 rfl (lv_at hl 0 rfl) ?_
  refine lv_iload_n hx hb dL_law_882 rfl (lv_at hl 3 rfl) ?_
  refine lv_iconst (v := 3) hx hb dL_law_883 (by decide) ?_
  refine lv_iadd hx hb dL_law_884 ?_
  refine wtop_i (y := nI (6 * k + 3)) (by rw [← nI_add]; rfl) ?_
  refine va_sld hx hb hX hbl hbA hS (vp_in_nI (show 6 * k + 3 < L by omega) (by omega)) dL_law_885 ?_
  refine wtop_i (y := xs (6 * k + 3)) (by rw [nI_clamp (show 6 * k + 3 < 2 ^ 31 by omega)]) ?_
  refine kX_i (As := [.int (xs (6 * k + 1)), .int (xs (6 * k + 2)), .int (xs (6 * k + 3))]) (rest := []) (q0 := 0) ⟨hx, hb, hml, hown, hts⟩ (x_X9_put l D cy ax _ J I O R RO LL Y (xs (6 * k + 1)) (xs (6 * k + 2)) (xs (6 * k + 3)) Bs Zs Vs hSc ⟨hM.1, hM.2.1, hM.2.2.1, hM.2.2.2.1, hM.2.2.2.2.1, hM.2.2.2.2.2.1, hM.2.2.2.2.2.2.1, hM.2.2.2.2.2.2.2.1, hRO0, hRO1, hRO2, hRO3⟩ ) (cwV 3 hts gq_X9_put rfl rfl rfl (by decide +kernel) ⟨Nat.le_of_ble_eq_true rfl, Nat.le_of_ble_eq_true rfl⟩) hK hN hP hD hS hA rfl rfl rfl hl.1 rfl (Nat.le_of_ble_eq_true rfl) dL_law_886 ⟨(show 39 + 17 * k + 0 ≤ 600000 by omega), (show 18292 + 85786 * k + 0 ≤ 7302249 by omega)⟩ (fun r_1 u H locs hw hP hD hS => ?_)
  obtain ⟨w_2, w_3, w_4, w_5, w_6, ⟨rfl, hp_7⟩, rfl⟩ := hw
  have hP : va_P D vwCl (MW cy am Jm Im Rm RJm ++ CT cy ax J (va_up I 10 w_2) O (va_up (va_up (va_up (va_up R 13 w_3) 15 w_4) 17 w_5) 19 w_6) RO (LL ++ Y)) H := hP
  have hD : va_D (fun q : Nat => s.heap.size ≤ q) (MW cy am Jm Im Rm RJm ++ CT cy ax J (va_up I 10 w_2) O (va_up (va_up (va_up (va_up R 13 w_3) 15 w_4) 17 w_5) 19 w_6) RO (LL ++ Y)) := hD
  refine lv_pop hx hb dL_law_889 rfl ?_
  refine lv_aload_n hx hb dL_law_890 rfl (lv_at hl 2 rfl) ?_
  refine lv_aload_n hx hb dL_law_891 rfl (lv_at hl 0 rfl) ?_
  refine lv_iload_n hx hb dL_law_892 rfl (lv_at hl 3 rfl) ?_
  refine lv_iconst (v := 1) hx hb dL_law_893 (by decide) ?_
  refine lv_iadd hx hb dL_law_894 ?_
  refine wtop_i (y := nI (6 * k + 1)) (by rw [← nI_add]; rfl) ?_
  refine va_sld hx hb hX hbl hbA hS (vp_in_nI (show 6 * k + 1 < L by omega) (by omega)) dL_law_895 ?_
  refine wtop_i (y := xs (6 * k + 1)) (by rw [nI_clamp (show 6 * k + 1 < 2 ^ 31 by omega)]) ?_
  refine lv_aload_n hx hb dL_law_896 rfl (lv_at hl 0 rfl) ?_
  refine lv_iload_n hx hb dL_law_897 rfl (lv_at hl 3 rfl) ?_
  refine lv_iconst (v := 2) hx hb dL_law_898 (by decide) ?_
  refine lv_iadd hx hb dL_law_899 ?_
  refine wtop_i (y := nI (6 * k + 2)) (by rw [← nI_add]; rfl) ?_
  refine va_sld hx hb hX hbl hbA hS (vp_in_nI (show 6 * k + 2 < L by omega) (by omega)) dL_law_900 ?_
  refine wtop_i (y := xs (6 * k + 2)) (by rw [nI_clamp (show 6 * k + 2 < 2 ^ 31 by omega)]) ?_
  refine lv_aload_n hx hb dL_law_901 rfl (lv_at hl 0 rfl) ?_
  refine lv_iload_n hx hb dL_law_902 rfl (lv_at hl 3 rfl) ?_
  refine lv_iconst (v := 3) hx hb dL_law_903 (by decide) ?_
  refine lv_iadd hx hb dL_law_904 ?_
  refine wtop_i (y := nI (6 * k + 3)) (by rw [← nI_add]; rfl) ?_
  refine va_sld hx hb hX hbl hbA hS (vp_in_nI (show 6 * k + 3 < L by omega) (by omega)) dL_law_905 ?_
  refine wtop_i (y := xs (6 * k + 3)) (by rw [nI_clamp (show 6 * k + 3 < 2 ^ 31 by omega)]) ?_
  refine kV_i (As := [.int (xs (6 * k + 1)), .int (xs (6 * k + 2)), .int (xs (6 * k + 3))]) (rest := []) (q0 := 0) ⟨hx, hb, hml, hown, hts⟩ (x_X10_put l D cy am _ Jm Im Rm RJm (xs (6 * k + 1)) (xs (6 * k + 2)) (xs (6 * k + 3)) Bs Zs Vs hSm ⟨hMm.1, hMm.2.1, hMm.2.2.1, hMm.2.2.2.1, hMm.2.2.2.2.1, hMm.2.2.2.2.2⟩) (cwV 3 hts gq_X10_put rfl rfl rfl (by decide +kernel) ⟨Nat.le_of_ble_eq_true rfl, Nat.le_of_ble_eq_true rfl⟩) hK hN hP hD hS hA rfl rfl rfl hl.1 rfl (Nat.le_of_ble_eq_true rfl) dL_law_906 ⟨(show 39 + 17 * k + 0 + 0 ≤ 600000 by omega), (show 18292 + 85786 * k + 0 + 0 ≤ 7302249 by omega)⟩ (fun r_8 u H locs hw hP hD hS => ?_)
  obtain ⟨w_9, w_10, ⟨rfl, hp_11⟩, rfl⟩ := hw
  have hP : va_P D vwCl (MW cy am Jm (va_up Im 13 w_9) (va_up Rm 10 w_10) RJm ++ CT cy ax J (va_up I 10 w_2) O (va_up (va_up (va_up (va_up R 13 w_3) 15 w_4) 17 w_5) 19 w_6) RO (LL ++ Y)) H := hP
  have hD : va_D (fun q : Nat => s.heap.size ≤ q) (MW cy am Jm (va_up Im 13 w_9) (va_up Rm 10 w_10) RJm ++ CT cy ax J (va_up I 10 w_2) O (va_up (va_up (va_up (va_up R 13 w_3) 15 w_4) 17 w_5) 19 w_6) RO (LL ++ Y)) := hD
  refine lv_pop hx hb dL_law_909 rfl ?_
  refine lv_goto (tgt := 1035) hx hb dL_law_910 (by decide) ?_
  refine W.widen (k := 39 + 17 * (k + 1)) (n := 18292 + 85786 * (k + 1)) (show 39 + 17 * k + 0 + 0 ≤ _ by omega) (show 18292 + 85786 * k + 0 + 0 ≤ _ by omega) ?_
  exact kk Jm (va_up Im 13 w_9) (va_up Rm 10 w_10) RJm J (va_up I 10 w_2) O (va_up (va_up (va_up (va_up R 13 w_3) 15 w_4) 17 w_5) 19 w_6) RO LL Y _ _ _ _ _ _ ⟨hMm.1, hMm.2.1, hMm.2.2.1, hMm.2.2.2.1, hMm.2.2.2.2.1, hMm.2.2.2.2.2⟩ ⟨hM.1, hM.2.1, hM.2.2.1, hM.2.2.2.1, hM.2.2.2.2.1, hM.2.2.2.2.2.1, hM.2.2.2.2.2.2.1, hM.2.2.2.2.2.2.2.1, hRO0, hRO1, hRO2, hRO3⟩ hLk hQ6 hQ hF hAm hp_11 hAc hp_7 hG _ _ hP hD hS ls (lv_sub hl [0, 1, 2, 3] rfl)
