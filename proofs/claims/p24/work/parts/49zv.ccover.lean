set_option maxHeartbeats 4000000 in
set_option maxRecDepth 100000 in
theorem x_X0_shift (l : Launch) (D : va_G) (cy : Nat → ClassId) (a : Nat → Nat) (sz : Nat) (J : Nat → Int64) (I : Nat → Int32) (O : Nat → Option Nat) (R : Nat → Nat → Int32) (RO : Nat → Nat → Option Nat) (LL : va_W) (Y : va_W) (x0 : Int32) (fl9 : Int64) (hwl : WL3 fl9 x0 (R 9) (R 10) (R 9) 0) : Met l yX0_shift wsX0_shift ({ frames := 0, cells := 0, slots := 0, locals := 0 }) (va_Pc [.ref (a 8), .int x0] (PW D cy sz (CT cy a J I O R RO (LL ++ Y)))) (va_Qv (fun (u : TS) => ∃ (w0 : Nat → Int32), ((shP fl9 (R 9) w0)) ∧ u = (J, I, O, (va_up R 9 w0), RO, LL, Y)) (BW D (va_A (CT cy a J I O R RO (LL ++ Y)) sz) (CTu cy a)) (va_A (CT cy a J I O R RO (LL ++ Y)) sz)) 0 0 (va_A (CT cy a J I O R RO (LL ++ Y)) sz) := by
  refine Met.ofW (cc := cX0_shift) (maxL := 6) (ret := none) (by decide) rfl ?_
  intro p e s m args below meth c s₁ B hml hv
  obtain ⟨rfl, rfl, hP, hK, hN, hD0⟩ := hv
  have hx := B.exec
  have hb := B.bytes
  have hr := B.returns
  have hts := atoms_spec (ws := wsX0_shift) B.pre
  have hown : s.vm.findClass RX0 = some m.cls := findClass_of_methodNamed B.named
  have hlocks := B.notSynchronized
  have hw0 := hts (.fieldLink RX0 13 "ParquetLayer$Covering" "reachedFrom" "[I") (by decide +kernel)
  have hw1 := hts (.fieldLink RX0 7 "ParquetLayer$Covering" "mate" "[I") (by decide +kernel)
  have hi0 := ihX0_shift_0
  have hD := hD0.self (sz := s.heap.size)
  generalize hAe : va_A (CT cy a J I O R RO (LL ++ Y)) s.heap.size = A at hD ⊢
  have hA : ∀ q : Nat, s.heap.size ≤ q → A q := fun q h => by rw [← hAe]; exact Or.inr h
  have hS : va_S A s.heap s.heap [] := va_S.rf
  have hl := lv_entry ([.ref (a 8), .int x0]) (n := 6) (Nat.le_of_ble_eq_true rfl)
  rw [lg_entry_eq]
  generalize (lg_sl ([.ref (a 8), .int x0]) ++ List.replicate (6 - (lg_sl ([.ref (a 8), .int x0])).length) Slot.unset).toArray = ls at hl ⊢
  have hl : lv_has ls 6 [(0, .ref (a 8)), (1, .int x0)] := hl
  have lp4 : ∀ (n4 : Nat), ∀ (i : Nat) (v2_4 : Int32) (m0_4 : Nat → Int32), (i ≤ 64) → (WL3 fl9 v2_4 m0_4 (R 10) (R 9) i) → (64 - i) < n4 → ∀ (H : Heap) (locs : List Loc), va_P D vwCl (CT cy a J I O (va_up R 9 m0_4) RO (LL ++ Y)) H → va_D A (CT cy a J I O (va_up R 9 m0_4) RO (LL ++ Y)) → va_S A s.heap H locs → ∀ (ls : Array Slot), lv_has ls 6 [(0, .ref (a 8)), (2, .int v2_4), (3, .int (nI i))] → W p l e (headSpec wsX0_shift ({ frames := 0, cells := 0, slots := 0, locals := 0 })).room s m ([.ref (a 8), .int x0] : List Value).toArray below meth c H locs 0 0 (MQ below (va_Qv (fun (u : TS) => ∃ (w0 : Nat → Int32), ((shP fl9 (R 9) w0)) ∧ u = (J, I, O, (va_up R 9 w0), RO, LL, Y)) (BW D A (CTu cy a)) A) ([.ref (a 8), .int x0] : List Value).toArray s 0 0 A) (F0 m 4 ls []) := by
    intro n4
    induction n4 with
    | zero => intro i v2_4 m0_4 hi hw3 hn; exact absurd hn (Nat.not_lt_zero _)
    | succ n4 ih4 =>
      intro i v2_4 m0_4 hi hw3 hn4 H locs hP hD hS ls hl
      refine lv_iload_n hx hb dX0_shift_4 rfl (lv_at hl 1 rfl) ?_
      refine lv_iconst (v := (-1)) hx hb dX0_shift_5 (by decide) ?_
      refine lv_icmp_eq (tgt := 57) hx hb dX0_shift_6 (by decide) (fun c_1 => ?_) (fun c_1 => ?_)
      · exact wret_v hx hb hr hlocks (J, I, O, (va_up R 9 m0_4), RO, LL, Y) ⟨m0_4, (wl3_e hw3 (Or.inl c_1)), rfl⟩ hP hD hS dX0_shift_57
      · obtain ⟨l9, d9, T9, P9, hl9, hd9, rfl, hfd, hws⟩ := wl3_pos hw3 c_1
        refine lv_iload_n hx hb dX0_shift_9 rfl (lv_at hl 2 rfl) ?_
        refine lv_bipush (v := 64) hx hb dX0_shift_10 (by decide) ?_
        refine lv_icmp_ge (tgt := 57) hx hb dX0_shift_12 (by decide) (fun c_2 => ?_) (fun c_2 => ?_)
        · have hie_i := ctr_ge (N := 64) (by decide) hi c_2
          exact wret_v hx hb hr hlocks (J, I, O, (va_up R 9 m0_4), RO, LL, Y) ⟨m0_4, (wl3_e hw3 (Or.inr hie_i)), rfl⟩ hP hD hS dX0_shift_57
        · have hlt_i := ctr_lt (N := 64) (by decide) hi c_2
          refine lv_aload_n hx hb dX0_shift_15 rfl (lv_at hl 0 rfl) ?_
          refine va_get (D := D) (ci := 0) (v := .ref (a 10)) (C := RX0) (T := TX0) (N := 7) hx hb hts hi0 hown hK hP 8 rfl rfl 1 (by decide) hw0 (fun _ h9 => h9) rfl dX0_shift_16 ?_
          refine lv_iload_n hx hb dX0_shift_19 rfl (lv_at hl 1 rfl) ?_
          refine va_iald hx hb hK hP 10 0 rfl rfl (vp_in_nI hl9 (by decide)) dX0_shift_20 ?_
          refine wtop_i (y := nI d9) (by rw [nI_clamp (Nat.lt_trans hl9 (by decide))]; exact hfd) ?_
          refine lv_istore (lv' := [(4, .int (nI d9)), (0, .ref (a 8)), (2, .int (nI l9)), (3, .int (nI i))]) hx hb dX0_shift_21 hl (by decide) rfl (fun ls hl => ?_)
          refine lv_aload_n hx hb dX0_shift_23 rfl (lv_at hl 1 rfl) ?_
          refine va_get (D := D) (ci := 0) (v := .ref (a 9)) (C := RX0) (T := TX0) (N := 7) hx hb hts hi0 hown hK hP 8 rfl rfl 0 (by decide) hw1 (fun _ h9 => h9) rfl dX0_shift_24 ?_
          refine lv_iload hx hb dX0_shift_27 (lv_at hl 0 rfl) ?_
          refine va_iald hx hb hK hP 9 0 rfl rfl (vp_in_nI hd9 (by decide)) dX0_shift_29 ?_
          refine lv_istore (lv' := [(5, .int (m0_4 (nI d9).toNatClampNeg)), (4, .int (nI d9)), (0, .ref (a 8)), (2, .int (nI l9)), (3, .int (nI i))]) hx hb dX0_shift_30 hl (by decide) rfl (fun ls hl => ?_)
          refine lv_aload_n hx hb dX0_shift_32 rfl (lv_at hl 2 rfl) ?_
          refine va_get (D := D) (ci := 0) (v := .ref (a 9)) (C := RX0) (T := TX0) (N := 7) hx hb hts hi0 hown hK hP 8 rfl rfl 0 (by decide) hw1 (fun _ h9 => h9) rfl dX0_shift_33 ?_
          refine lv_iload hx hb dX0_shift_36 (lv_at hl 1 rfl) ?_
          refine lv_iload_n hx hb dX0_shift_38 rfl (lv_at hl 3 rfl) ?_
          refine va_iast hx hb hK hP hD hS 9 0 rfl rfl (vp_in_nI hd9 (by decide)) dX0_shift_39 (fun H locs hP hD hS => ?_)
          have hP : va_P D vwCl (CT cy a J I O (va_up R 9 (upd m0_4 (nI d9).toNatClampNeg (nI l9))) RO (LL ++ Y)) H := hP
          have hD : va_D A (CT cy a J I O (va_up R 9 (upd m0_4 (nI d9).toNatClampNeg (nI l9))) RO (LL ++ Y)) := hD
          obtain ⟨U9, hU9⟩ : ∃ z, z = (upd m0_4 (nI d9).toNatClampNeg (nI l9)) := ⟨_, rfl⟩
          rw [← hU9] at hP hD
          have hP : va_P D vwCl (CT cy a J I O (va_up R 9 U9) RO (LL ++ Y)) H := hP
          have hD : va_D A (CT cy a J I O (va_up R 9 U9) RO (LL ++ Y)) := hD
          refine lv_aload_n hx hb dX0_shift_40 rfl (lv_at hl 2 rfl) ?_
          refine va_get (D := D) (ci := 0) (v := .ref (a 9)) (C := RX0) (T := TX0) (N := 7) hx hb hts hi0 hown hK hP 8 rfl rfl 0 (by decide) hw1 (fun _ h9 => h9) rfl dX0_shift_41 ?_
          refine lv_iload_n hx hb dX0_shift_44 rfl (lv_at hl 3 rfl) ?_
          refine lv_iload hx hb dX0_shift_45 (lv_at hl 1 rfl) ?_
          refine va_iast hx hb hK hP hD hS 9 0 rfl rfl (vp_in_nI hl9 (by decide)) dX0_shift_47 (fun H locs hP hD hS => ?_)
          have hP : va_P D vwCl (CT cy a J I O (va_up R 9 (upd U9 (nI l9).toNatClampNeg (nI d9))) RO (LL ++ Y)) H := hP
          have hD : va_D A (CT cy a J I O (va_up R 9 (upd U9 (nI l9).toNatClampNeg (nI d9))) RO (LL ++ Y)) := hD
          refine lv_iload hx hb dX0_shift_48 (lv_at hl 0 rfl) ?_
          refine lv_istore_n (lv' := [(2, .int (m0_4 (nI d9).toNatClampNeg)), (5, .int (m0_4 (nI d9).toNatClampNeg)), (4, .int (nI d9)), (0, .ref (a 8)), (3, .int (nI i))]) hx hb dX0_shift_50 rfl hl (by decide) rfl (fun ls hl => ?_)
          refine lv_iinc (v := nI (i + 1)) (lv' := [(3, .int (nI (i + 1))), (2, .int (m0_4 (nI d9).toNatClampNeg)), (5, .int (m0_4 (nI d9).toNatClampNeg)), (4, .int (nI d9)), (0, .ref (a 8))]) hx hb dX0_shift_51 hl (k := 4) rfl (nI_1 _) (by decide) rfl (fun ls hl => ?_)
          refine lv_goto (tgt := 4) hx hb dX0_shift_54 (by decide) ?_
          exact ih4 (i + 1) (m0_4 (nI d9).toNatClampNeg) (upd U9 (nI l9).toNatClampNeg (nI d9)) hlt_i (by rw [hU9]; exact ws3_step2 hl9 hd9 hws) (lt_dec hlt_i hn4) _ _ hP hD hS ls (lv_sub hl [4, 1, 0] rfl)
  have hP : va_P D vwCl (CT cy a J I O (va_up R 9 (R 9)) RO (LL ++ Y)) s.heap := hP
  have hD : va_D A (CT cy a J I O (va_up R 9 (R 9)) RO (LL ++ Y)) := hD
  refine lv_iload_n hx hb dX0_shift_0 rfl (lv_at hl 1 rfl) ?_
  refine lv_istore_n (lv' := [(2, .int x0), (0, .ref (a 8)), (1, .int x0)]) hx hb dX0_shift_1 rfl hl (by decide) rfl (fun ls hl => ?_)
  refine lv_iconst (v := 0) hx hb dX0_shift_2 (by decide) ?_
  refine lv_istore_n (lv' := [(3, .int 0), (2, .int x0), (0, .ref (a 8)), (1, .int x0)]) hx hb dX0_shift_3 rfl hl (by decide) rfl (fun ls hl => ?_)
  exact lp4 _ 0 x0 (R 9) (Nat.zero_le _) hwl (Nat.lt_succ_self _) _ _ hP hD hS ls (lv_sub hl [2, 1, 0] rfl)
set_option maxHeartbeats 4000000 in
set_option maxRecDepth 100000 in
theorem x_X0_cover (l : Launch) (D : va_G) (cy : Nat → ClassId) (a : Nat → Nat) (sz : Nat) (J : Nat → Int64) (I : Nat → Int32) (O : Nat → Option Nat) (R : Nat → Nat → Int32) (RO : Nat → Nat → Option Nat) (LL : va_W) (Y : va_W) (x0 : Int64) (hQ : Q64 (R 11)) (hF : Q64 (R 10)) : Met l yX0_cover wsX0_cover ({ frames := 4, cells := 0, slots := 0, locals := 94 }) (va_Pc [.ref (a 8), .long x0] (PW D cy sz (CT cy a J I O R RO (LL ++ Y)))) (va_Qv (fun (u : TS) => ∃ (w0 : Int64), ∃ (w1 : Int64), ∃ (w2 : Int64), ∃ (w3 : Int32), ∃ (w4 : Nat → Int32), ∃ (w5 : Nat → Int32), ∃ (w6 : Nat → Int32), ((Q64 w6) ∧ (Q64 w5) ∧ (cvE x0 w1 w2)) ∧ u = ((va_up (va_up (va_up J 260 w0) 261 w1) 262 w2), (va_up I 259 w3), O, (va_up (va_up (va_up R 9 w4) 10 w5) 11 w6), RO, LL, Y)) (BW D (va_A (CT cy a J I O R RO (LL ++ Y)) sz) (CTu cy a)) (va_A (CT cy a J I O R RO (LL ++ Y)) sz)) 0 0 (va_A (CT cy a J I O R RO (LL ++ Y)) sz) := by
  refine Met.ofW (cc := cX0_cover) (maxL := 5) (ret := none) (by decide) rfl ?_
  intro p e s m args below meth c s₁ B hml hv
  obtain ⟨rfl, rfl, hP, hK, hN, hD0⟩ := hv
  have hx := B.exec
  have hb := B.bytes
  have hr := B.returns
  have hts := atoms_spec (ws := wsX0_cover) B.pre
  have hown : s.vm.findClass RX0 = some m.cls := findClass_of_methodNamed B.named
  have hlocks := B.notSynchronized
  have hw0 := hts (.fieldLink RX0 7 "ParquetLayer$Covering" "mate" "[I") (by decide +kernel)
  have hi0 := ihX0_cover_0
  have hD := hD0.self (sz := s.heap.size)
  generalize hAe : va_A (CT cy a J I O R RO (LL ++ Y)) s.heap.size = A at hD ⊢
  have hA : ∀ q : Nat, s.heap.size ≤ q → A q := fun q h => by rw [← hAe]; exact Or.inr h
  have hS : va_S A s.heap s.heap [] := va_S.rf
  have hl := lv_entry ([.ref (a 8), .long x0]) (n := 5) (Nat.le_of_ble_eq_true rfl)
  rw [lg_entry_eq]
  generalize (lg_sl ([.ref (a 8), .long x0]) ++ List.replicate (5 - (lg_sl ([.ref (a 8), .long x0])).length) Slot.unset).toArray = ls at hl ⊢
  have hl : lv_has ls 5 [(0, .ref (a 8)), (1, .long x0)] := hl
  have lp17 : ∀ (n17 : Nat), ∀ (i : Nat) (v3_17 : Int32) (m0_17 : Int64) (m1_17 : Int64) (m2_17 : Int64) (m3_17 : Int32) (m4_17 : Nat → Int32) (m5_17 : Nat → Int32) (m6_17 : Nat → Int32), (i ≤ 33) → (CV x0 m4_17 i) → (Q64 m6_17) → (Q64 m5_17) → (v3_17 = -1 → sEnd x0 (sv m2_17 m0_17) m4_17 (-1) ∧ ∀ d, d < 64 → (bfx m2_17 d = true ↔ (dk x0 d ∧ ¬ sv m2_17 m0_17 d = 0))) → (sfOk2 x0 (-1) m5_17 m4_17 v3_17) → (∀ d, d < 64 → (bfx m1_17 d = true ↔ UD x0 m4_17 d)) → (33 - i) < n17 → ∀ (H : Heap) (locs : List Loc), va_P D vwCl (CT cy a (va_up (va_up (va_up J 260 m0_17) 261 m1_17) 262 m2_17) (va_up I 259 m3_17) O (va_up (va_up (va_up R 9 m4_17) 10 m5_17) 11 m6_17) RO (LL ++ Y)) H → va_D A (CT cy a (va_up (va_up (va_up J 260 m0_17) 261 m1_17) 262 m2_17) (va_up I 259 m3_17) O (va_up (va_up (va_up R 9 m4_17) 10 m5_17) 11 m6_17) RO (LL ++ Y)) → va_S A s.heap H locs → ∀ (ls : Array Slot), lv_has ls 5 [(0, .ref (a 8)), (1, .long x0), (3, .int v3_17), (4, .int (nI i))] → W p l e (headSpec wsX0_cover ({ frames := 4, cells := 0, slots := 0, locals := 94 })).room s m ([.ref (a 8), .long x0] : List Value).toArray below meth c H locs 0 0 (MQ below (va_Qv (fun (u : TS) => ∃ (w0 : Int64), ∃ (w1 : Int64), ∃ (w2 : Int64), ∃ (w3 : Int32), ∃ (w4 : Nat → Int32), ∃ (w5 : Nat → Int32), ∃ (w6 : Nat → Int32), ((Q64 w6) ∧ (Q64 w5) ∧ (cvE x0 w1 w2)) ∧ u = ((va_up (va_up (va_up J 260 w0) 261 w1) 262 w2), (va_up I 259 w3), O, (va_up (va_up (va_up R 9 w4) 10 w5) 11 w6), RO, LL, Y)) (BW D A (CTu cy a)) A) ([.ref (a 8), .long x0] : List Value).toArray s 0 0 A) (F0 m 17 ls []) := by
    intro n17
    induction n17 with
    | zero => intro i v3_17 m0_17 m1_17 m2_17 m3_17 m4_17 m5_17 m6_17 hi hcv hQ hF hs2 hs3 hlf hn; exact absurd hn (Nat.not_lt_zero _)
    | succ n17 ih17 =>
      intro i v3_17 m0_17 m1_17 m2_17 m3_17 m4_17 m5_17 m6_17 hi hcv hQ hF hs2 hs3 hlf hn17 H locs hP hD hS ls hl
      refine lv_iload_n hx hb dX0_cover_17 rfl (lv_at hl 2 rfl) ?_
      refine lv_iconst (v := (-1)) hx hb dX0_cover_18 (by decide) ?_
      refine lv_icmp_eq (tgt := 46) hx hb dX0_cover_19 (by decide) (fun c_1 => ?_) (fun c_1 => ?_)
      · exact wret_v hx hb hr hlocks ((va_up (va_up (va_up J 260 m0_17) 261 m1_17) 262 m2_17), (va_up I 259 m3_17), O, (va_up (va_up (va_up R 9 m4_17) 10 m5_17) 11 m6_17), RO, LL, Y) ⟨m0_17, m1_17, m2_17, m3_17, m4_17, m5_17, m6_17, ⟨hQ, hF, (cv_e hcv hlf (hs2 c_1))⟩, rfl⟩ hP hD hS dX0_cover_46
      · refine lv_iload hx hb dX0_cover_22 (lv_at hl 3 rfl) ?_
        refine lv_bipush (v := 33) hx hb dX0_cover_24 (by decide) ?_
        refine lv_icmp_ge (tgt := 46) hx hb dX0_cover_26 (by decide) (fun c_2 => ?_) (fun c_2 => ?_)
        · have hie_i := ctr_ge (N := 33) (by decide) hi c_2
          exact wret_v hx hb hr hlocks ((va_up (va_up (va_up J 260 m0_17) 261 m1_17) 262 m2_17), (va_up I 259 m3_17), O, (va_up (va_up (va_up R 9 m4_17) 10 m5_17) 11 m6_17), RO, LL, Y) ⟨m0_17, m1_17, m2_17, m3_17, m4_17, m5_17, m6_17, ⟨hQ, hF, (cv_33 hcv hie_i).elim⟩, rfl⟩ hP hD hS dX0_cover_46
        · have hlt_i := ctr_lt (N := 33) (by decide) hi c_2
          refine lv_aload_n hx hb dX0_cover_29 rfl (lv_at hl 0 rfl) ?_
          refine lv_iload_n hx hb dX0_cover_30 rfl (lv_at hl 2 rfl) ?_
          refine kM_v (As := [.int v3_17]) (rest := []) (q0 := 8) ⟨hx, hb, hml, hown, hts⟩ (x_X0_shift l D cy a _ (va_up (va_up (va_up J 260 m0_17) 261 m1_17) 262 m2_17) (va_up I 259 m3_17) O (va_up (va_up (va_up R 9 m4_17) 10 m5_17) 11 m6_17) RO LL Y v3_17 x0 (wl3_0 hcv hs3 c_1)  ) (cwV 1 hts gX0_cover_X0_shift rfl rfl rfl (by decide +kernel) ⟨Nat.le_of_ble_eq_true rfl, Nat.le_of_ble_eq_true rfl⟩) hK hN hP hD hS hA rfl rfl rfl hl.1 rfl (Nat.le_of_ble_eq_true rfl) dX0_cover_31 ⟨Nat.le_of_ble_eq_true rfl, Nat.le_of_ble_eq_true rfl⟩ (fun u H locs hw hP hD hS => ?_)
          obtain ⟨w_4, hp_5, rfl⟩ := hw
          have hP : va_P D vwCl (CT cy a (va_up (va_up (va_up J 260 m0_17) 261 m1_17) 262 m2_17) (va_up I 259 m3_17) O (va_up (va_up (va_up R 9 w_4) 10 m5_17) 11 m6_17) RO (LL ++ Y)) H := hP
          have hD : va_D A (CT cy a (va_up (va_up (va_up J 260 m0_17) 261 m1_17) 262 m2_17) (va_up I 259 m3_17) O (va_up (va_up (va_up R 9 w_4) 10 m5_17) 11 m6_17) RO (LL ++ Y)) := hD
          refine lv_aload_n hx hb dX0_cover_34 rfl (lv_at hl 0 rfl) ?_
          refine lv_lload_n hx hb dX0_cover_35 rfl (lv_at hl 1 rfl) ?_
          refine kM_i (As := [.long x0]) (rest := []) (q0 := 8) ⟨hx, hb, hml, hown, hts⟩ (x_X0_search l D cy a _ (va_up (va_up (va_up J 260 m0_17) 261 m1_17) 262 m2_17) (va_up I 259 m3_17) O (va_up (va_up (va_up R 9 w_4) 10 m5_17) 11 m6_17) RO LL Y x0 hp_5.1 hQ hF hp_5.2.1 hp_5.2.2.1  ) (cwV 1 hts gX0_cover_X0_search rfl rfl rfl (by decide +kernel) ⟨Nat.le_of_ble_eq_true rfl, Nat.le_of_ble_eq_true rfl⟩) hK hN hP hD hS hA rfl rfl rfl hl.1 rfl (Nat.le_of_ble_eq_true rfl) dX0_cover_36 ⟨Nat.le_of_ble_eq_true rfl, Nat.le_of_ble_eq_true rfl⟩ (fun r_6 u H locs hw hP hD hS => ?_)
          obtain ⟨w_7, w_8, w_9, w_10, w_11, w_12, ⟨hp_13, hp_14, hp_15, hp_16, hp_17, hp_18⟩, rfl⟩ := hw
          have hP : va_P D vwCl (CT cy a (va_up (va_up (va_up J 260 w_7) 261 w_8) 262 w_9) (va_up I 259 w_10) O (va_up (va_up (va_up R 9 w_4) 10 w_11) 11 w_12) RO (LL ++ Y)) H := hP
          have hD : va_D A (CT cy a (va_up (va_up (va_up J 260 w_7) 261 w_8) 262 w_9) (va_up I 259 w_10) O (va_up (va_up (va_up R 9 w_4) 10 w_11) 11 w_12) RO (LL ++ Y)) := hD
          refine lv_istore_n (lv' := [(3, .int r_6), (0, .ref (a 8)), (1, .long x0), (4, .int (nI i))]) hx hb dX0_cover_39 rfl hl (by decide) rfl (fun ls hl => ?_)
          refine lv_iinc (v := nI (i + 1)) (lv' := [(4, .int (nI (i + 1))), (3, .int r_6), (0, .ref (a 8)), (1, .long x0)]) hx hb dX0_cover_40 hl (k := 3) rfl (nI_1 _) (by decide) rfl (fun ls hl => ?_)
          refine lv_goto (tgt := 17) hx hb dX0_cover_43 (by decide) ?_
          exact ih17 (i + 1) r_6 w_7 w_8 w_9 w_10 w_4 w_11 w_12 hlt_i (cv_s hcv hp_5) hp_13 hp_14 hp_16 hp_17 hp_18 (lt_dec hlt_i hn17) _ _ hP hD hS ls (lv_sub hl [2, 3, 1, 0] rfl)
  have hP : va_P D vwCl (CT cy a (va_up (va_up (va_up J 260 (J 260)) 261 (J 261)) 262 (J 262)) (va_up I 259 (I 259)) O (va_up (va_up (va_up R 9 (R 9)) 10 (R 10)) 11 (R 11)) RO (LL ++ Y)) s.heap := hP
  have hD : va_D A (CT cy a (va_up (va_up (va_up J 260 (J 260)) 261 (J 261)) 262 (J 262)) (va_up I 259 (I 259)) O (va_up (va_up (va_up R 9 (R 9)) 10 (R 10)) 11 (R 11)) RO (LL ++ Y)) := hD
  refine lv_aload_n hx hb dX0_cover_0 rfl (lv_at hl 0 rfl) ?_
  refine va_get (D := D) (ci := 0) (v := .ref (a 9)) (C := RX0) (T := TX0) (N := 7) hx hb hts hi0 hown hK hP 8 rfl rfl 0 (by decide) hw0 (fun _ h9 => h9) rfl dX0_cover_1 ?_
  refine lv_iconst (v := (-1)) hx hb dX0_cover_4 (by decide) ?_
  refine kW_v (As := [.ref (a 9), .int (-1)]) (rest := []) ⟨hx, hb, hml, hown, hts⟩ (t_fill9p l D cy a _ (va_up (va_up (va_up J 260 (J 260)) 261 (J 261)) 262 (J 262)) (va_up I 259 (I 259)) O (va_up (va_up (va_up R 9 (R 9)) 10 (R 10)) 11 (R 11)) RO LL Y ((-1) : Int32)   ) (va_cwS 2 hts gX0_cover_J7_fill_53178 rfl rfl rfl (by decide +kernel) ⟨Nat.le_of_ble_eq_true rfl, Nat.le_of_ble_eq_true rfl⟩) hK hN hP hD hS hA rfl hl.1 rfl (Nat.le_of_ble_eq_true rfl) dX0_cover_5 ⟨Nat.le_of_ble_eq_true rfl, Nat.le_of_ble_eq_true rfl⟩ (fun u H locs hw hP hD hS => ?_)
  obtain ⟨w_20, hp_21, rfl⟩ := hw
  have hP : va_P D vwCl (CT cy a (va_up (va_up (va_up J 260 (J 260)) 261 (J 261)) 262 (J 262)) (va_up I 259 (I 259)) O (va_up (va_up (va_up R 9 w_20) 10 (R 10)) 11 (R 11)) RO (LL ++ Y)) H := hP
  have hD : va_D A (CT cy a (va_up (va_up (va_up J 260 (J 260)) 261 (J 261)) 262 (J 262)) (va_up I 259 (I 259)) O (va_up (va_up (va_up R 9 w_20) 10 (R 10)) 11 (R 11)) RO (LL ++ Y)) := hD
  refine lv_aload_n hx hb dX0_cover_8 rfl (lv_at hl 0 rfl) ?_
  refine lv_lload_n hx hb dX0_cover_9 rfl (lv_at hl 1 rfl) ?_
  refine kM_i (As := [.long x0]) (rest := []) (q0 := 8) ⟨hx, hb, hml, hown, hts⟩ (x_X0_search l D cy a _ (va_up (va_up (va_up J 260 (J 260)) 261 (J 261)) 262 (J 262)) (va_up I 259 (I 259)) O (va_up (va_up (va_up R 9 w_20) 10 (R 10)) 11 (R 11)) RO LL Y x0 (cv_0 (fl := x0) rfl hp_21).1 hQ hF (cv_0 (fl := x0) rfl hp_21).2.1 (cv_0 (fl := x0) rfl hp_21).2.2.1  ) (cwV 1 hts gX0_cover_X0_search rfl rfl rfl (by decide +kernel) ⟨Nat.le_of_ble_eq_true rfl, Nat.le_of_ble_eq_true rfl⟩) hK hN hP hD hS hA rfl rfl rfl hl.1 rfl (Nat.le_of_ble_eq_true rfl) dX0_cover_10 ⟨Nat.le_of_ble_eq_true rfl, Nat.le_of_ble_eq_true rfl⟩ (fun r_22 u H locs hw hP hD hS => ?_)
  obtain ⟨w_23, w_24, w_25, w_26, w_27, w_28, ⟨hp_29, hp_30, hp_31, hp_32, hp_33, hp_34⟩, rfl⟩ := hw
  have hP : va_P D vwCl (CT cy a (va_up (va_up (va_up J 260 w_23) 261 w_24) 262 w_25) (va_up I 259 w_26) O (va_up (va_up (va_up R 9 w_20) 10 w_27) 11 w_28) RO (LL ++ Y)) H := hP
  have hD : va_D A (CT cy a (va_up (va_up (va_up J 260 w_23) 261 w_24) 262 w_25) (va_up I 259 w_26) O (va_up (va_up (va_up R 9 w_20) 10 w_27) 11 w_28) RO (LL ++ Y)) := hD
  refine lv_istore_n (lv' := [(3, .int r_22), (0, .ref (a 8)), (1, .long x0)]) hx hb dX0_cover_13 rfl hl (by decide) rfl (fun ls hl => ?_)
  refine lv_iconst (v := 0) hx hb dX0_cover_14 (by decide) ?_
  refine lv_istore (lv' := [(4, .int 0), (3, .int r_22), (0, .ref (a 8)), (1, .long x0)]) hx hb dX0_cover_15 hl (by decide) rfl (fun ls hl => ?_)
  exact lp17 _ 0 r_22 w_23 w_24 w_25 w_26 w_20 w_27 w_28 (Nat.zero_le _) (cv_0 rfl hp_21) hp_29 hp_30 hp_32 hp_33 hp_34 (Nat.lt_succ_self _) _ _ hP hD hS ls (lv_sub hl [2, 3, 1, 0] rfl)
