set_option maxHeartbeats 4000000 in
set_option maxRecDepth 100000 in
theorem x_fillh4 (l : Launch) (D : va_G) (cy : Nat → ClassId) (a : Nat → Nat) (sz : Nat) (J : Nat → Int64) (I : Nat → Int32) (O : Nat → Option Nat) (R : Nat → Nat → Int32) (RO : Nat → Nat → Option Nat) (LL : va_W) (Y : va_W) (x1 : Int32) : Met l yJ7_fill_53178 wsJ7_fill_53178 ({ frames := 0, cells := 0, slots := 0, locals := 0 }) (va_Pc [.ref (a 4), .int x1] (PW D cy sz (CT cy a J I O R RO (LL ++ Y)))) (va_Qv (fun (u : TS) => ∃ (w0 : Nat → Int32), ((∀ p, p < 81 → w0 p = x1)) ∧ u = (J, I, O, (va_up R 4 w0), RO, LL, Y)) (BW D (va_A (CT cy a J I O R RO (LL ++ Y)) sz) (CTu cy a)) (va_A (CT cy a J I O R RO (LL ++ Y)) sz)) 0 0 (va_A (CT cy a J I O R RO (LL ++ Y)) sz) := by
  refine Met.ofW (cc := cJ7_fill_53178) (maxL := 4) (ret := none) (by decide) rfl ?_
  intro p e s m args below meth c s₁ B hml hv
  obtain ⟨rfl, rfl, hP, hK, hN, hD0⟩ := hv
  have hx := B.exec
  have hb := B.bytes
  have hr := B.returns
  have hts := atoms_spec (ws := wsJ7_fill_53178) B.pre
  have hown : s.vm.findClass RJ7 = some m.cls := findClass_of_methodNamed B.named
  have hlocks := B.notSynchronized
  have hD := hD0.self (sz := s.heap.size)
  generalize hAe : va_A (CT cy a J I O R RO (LL ++ Y)) s.heap.size = A at hD ⊢
  have hA : ∀ q : Nat, s.heap.size ≤ q → A q := fun q h => by rw [← hAe]; exact Or.inr h
  have hS : va_S A s.heap s.heap [] := va_S.rf
  have hl := lv_entry ([.ref (a 4), .int x1]) (n := 4) (Nat.le_of_ble_eq_true rfl)
  rw [lg_entry_eq]
  generalize (lg_sl ([.ref (a 4), .int x1]) ++ List.replicate (4 - (lg_sl ([.ref (a 4), .int x1])).length) Slot.unset).toArray = ls at hl ⊢
  have hl : lv_has ls 4 [(0, .ref (a 4)), (1, .int x1)] := hl
  have lp5 : ∀ (n5 : Nat), ∀ (i : Nat) (m0_5 : Nat → Int32), (i ≤ 81) → (∀ p, p < i → m0_5 p = x1) → (81 - i) < n5 → ∀ (H : Heap) (locs : List Loc), va_P D vwCl (CT cy a J I O (va_up R 4 m0_5) RO (LL ++ Y)) H → va_D A (CT cy a J I O (va_up R 4 m0_5) RO (LL ++ Y)) → va_S A s.heap H locs → ∀ (ls : Array Slot), lv_has ls 4 [(0, .ref (a 4)), (1, .int x1), (2, .int (nI i)), (3, .int 81)] → W p l e (headSpec wsJ7_fill_53178 ({ frames := 0, cells := 0, slots := 0, locals := 0 })).room s m ([.ref (a 4), .int x1] : List Value).toArray below meth c H locs 0 0 (MQ below (va_Qv (fun (u : TS) => ∃ (w0 : Nat → Int32), ((∀ p, p < 81 → w0 p = x1)) ∧ u = (J, I, O, (va_up R 4 w0), RO, LL, Y)) (BW D A (CTu cy a)) A) ([.ref (a 4), .int x1] : List Value).toArray s 0 0 A) (F0 m 5 ls []) := by
    intro n5
    induction n5 with
    | zero => intro i m0_5 hi hfp hn; exact absurd hn (Nat.not_lt_zero _)
    | succ n5 ih5 =>
      intro i m0_5 hi hfp hn5 H locs hP hD hS ls hl
      refine lv_iload_n hx hb dJ7_fill_53178_5 rfl (lv_at hl 2 rfl) ?_
      refine lv_iload_n hx hb dJ7_fill_53178_6 rfl (lv_at hl 3 rfl) ?_
      refine lv_icmp_ge (tgt := 20) hx hb dJ7_fill_53178_7 (by decide) (fun c_1 => ?_) (fun c_1 => ?_)
      · have hie := ctr_ge (N := 81) (by decide) hi c_1
        exact wret_v hx hb hr hlocks (J, I, O, (va_up R 4 m0_5), RO, LL, Y) ⟨m0_5, (by rw [hie] at hfp; exact hfp), rfl⟩ hP hD hS dJ7_fill_53178_20
      · have hlt_i := ctr_lt (N := 81) (by decide) hi c_1
        refine lv_aload_n hx hb dJ7_fill_53178_10 rfl (lv_at hl 0 rfl) ?_
        refine lv_iload_n hx hb dJ7_fill_53178_11 rfl (lv_at hl 2 rfl) ?_
        refine lv_iload_n hx hb dJ7_fill_53178_12 rfl (lv_at hl 1 rfl) ?_
        refine va_iast hx hb hK hP hD hS 4 0 rfl rfl (vp_in_nI hlt_i (by decide)) dJ7_fill_53178_13 (fun H locs hP hD hS => ?_)
        have hP : va_P D vwCl (CT cy a J I O (va_up R 4 (upd m0_5 (nI i).toNatClampNeg x1)) RO (LL ++ Y)) H := hP
        have hD : va_D A (CT cy a J I O (va_up R 4 (upd m0_5 (nI i).toNatClampNeg x1)) RO (LL ++ Y)) := hD
        refine lv_iinc (v := nI (i + 1)) (lv' := [(2, .int (nI (i + 1))), (0, .ref (a 4)), (1, .int x1), (3, .int 81)]) hx hb dJ7_fill_53178_14 hl (k := 2) rfl (nI_1 _) (by decide) rfl (fun ls hl => ?_)
        refine lv_goto (tgt := 5) hx hb dJ7_fill_53178_17 (by decide) ?_
        exact ih5 (i + 1) (upd m0_5 (nI i).toNatClampNeg x1) hlt_i (fill_81 hlt_i hfp) (lt_dec hlt_i hn5) _ _ hP hD hS ls (lv_sub hl [1, 2, 0, 3] rfl)
  have hP : va_P D vwCl (CT cy a J I O (va_up R 4 (R 4)) RO (LL ++ Y)) s.heap := hP
  have hD : va_D A (CT cy a J I O (va_up R 4 (R 4)) RO (LL ++ Y)) := hD
  refine lv_iconst (v := 0) hx hb dJ7_fill_53178_0 (by decide) ?_
  refine lv_istore_n (lv' := [(2, .int 0), (0, .ref (a 4)), (1, .int x1)]) hx hb dJ7_fill_53178_1 rfl hl (by decide) rfl (fun ls hl => ?_)
  refine lv_aload_n hx hb dJ7_fill_53178_2 rfl (lv_at hl 1 rfl) ?_
  refine va_alen hx hb hK hP 4 0 rfl rfl (v := 81) rfl dJ7_fill_53178_3 ?_
  refine lv_istore_n (lv' := [(3, .int 81), (2, .int 0), (0, .ref (a 4)), (1, .int x1)]) hx hb dJ7_fill_53178_4 rfl hl (by decide) rfl (fun ls hl => ?_)
  exact lp5 _ 0 (R 4) (by omega) (fun p h => absurd h (Nat.not_lt_zero _)) (Nat.lt_succ_self _) _ _ hP hD hS ls (lv_sub hl [2, 3, 1, 0] rfl)
set_option maxHeartbeats 4000000 in
set_option maxRecDepth 100000 in
theorem x_X2_reach4 (l : Launch) (D : va_G) (cy : Nat → ClassId) (a : Nat → Nat) (sz : Nat) (J : Nat → Int64) (I : Nat → Int32) (O : Nat → Option Nat) (R : Nat → Nat → Int32) (RO : Nat → Nat → Option Nat) (LL : va_W) (Y : va_W) (x0 : Int32) (x1 : Int32) (hT : O 100 = some (a 4)) (hq : vp_in (I 99) 82) (hQ : ∀ i, i < 81 → vp_in (R 6 i) 81) : Met l yX2_reach wsX2_reach ({ frames := 0, cells := 0, slots := 0, locals := 0 }) (va_Pc [.ref (a 3), .int x0, .int x1] (PW D cy sz (CT cy a J I O R RO (LL ++ Y)))) (va_Qv (fun (u : TS) => ∃ (w0 : Int32), ∃ (w1 : Option Nat), ∃ (w2 : Nat → Int32), ∃ (w3 : Nat → Int32), ((w1 = some (a 4)) ∧ (vp_in w0 82) ∧ (∀ i, i < 81 → vp_in (w3 i) 81) ∧ (rcR (R 4) (R 6) (I 99) w2 w3 w0 x0 x1)) ∧ u = (J, (va_up I 99 w0), (va_up O 100 w1), (va_up (va_up R 4 w2) 6 w3), RO, LL, Y)) (BW D (va_A (CT cy a J I O R RO (LL ++ Y)) sz) (CTu cy a)) (va_A (CT cy a J I O R RO (LL ++ Y)) sz)) 0 0 (va_A (CT cy a J I O R RO (LL ++ Y)) sz) := by
  refine Met.ofW (cc := cX2_reach) (maxL := 3) (ret := none) (by decide) rfl ?_
  intro p e s m args below meth c s₁ B hml hv
  obtain ⟨rfl, rfl, hP, hK, hN, hD0⟩ := hv
  have hx := B.exec
  have hb := B.bytes
  have hr := B.returns
  have hts := atoms_spec (ws := wsX2_reach) B.pre
  have hown : s.vm.findClass RX2 = some m.cls := findClass_of_methodNamed B.named
  have hlocks := B.notSynchronized
  have hw0 := hts (.fieldLink RX2 19 "ParquetLayer$Heights" "target" "[I") (by decide +kernel)
  have hw1 := hts (.fieldLink RX2 38 "ParquetLayer$Heights" "queued" "I") (by decide +kernel)
  have hw2 := hts (.fieldLink RX2 16 "ParquetLayer$Heights" "queue" "[I") (by decide +kernel)
  have hi2 := ihX2_reach_2
  have hD := hD0.self (sz := s.heap.size)
  generalize hAe : va_A (CT cy a J I O R RO (LL ++ Y)) s.heap.size = A at hD ⊢
  have hA : ∀ q : Nat, s.heap.size ≤ q → A q := fun q h => by rw [← hAe]; exact Or.inr h
  have hS : va_S A s.heap s.heap [] := va_S.rf
  have hl := lv_entry ([.ref (a 3), .int x0, .int x1]) (n := 3) (Nat.le_of_ble_eq_true rfl)
  rw [lg_entry_eq]
  generalize (lg_sl ([.ref (a 3), .int x0, .int x1]) ++ List.replicate (3 - (lg_sl ([.ref (a 3), .int x0, .int x1])).length) Slot.unset).toArray = ls at hl ⊢
  have hl : lv_has ls 3 [(0, .ref (a 3)), (1, .int x0), (2, .int x1)] := hl
  have hP : va_P D vwCl (CT cy a J (va_up I 99 (I 99)) (va_up O 100 (O 100)) (va_up (va_up R 4 (R 4)) 6 (R 6)) RO (LL ++ Y)) s.heap := hP
  have hD : va_D A (CT cy a J (va_up I 99 (I 99)) (va_up O 100 (O 100)) (va_up (va_up R 4 (R 4)) 6 (R 6)) RO (LL ++ Y)) := hD
  rw [hT] at hP hD
  refine lv_iload_n hx hb dX2_reach_0 rfl (lv_at hl 1 rfl) ?_
  refine lv_if_lt (tgt := 58) hx hb dX2_reach_1 (by decide) (fun c_1 => ?_) (fun c_1 => ?_)
  · exact wret_v hx hb hr hlocks (J, (va_up I 99 (I 99)), (va_up O 100 (some (a 4))), (va_up (va_up R 4 (R 4)) 6 (R 6)), RO, LL, Y) ⟨(I 99), (some (a 4)), (R 4), (R 6), ⟨rfl, hq, hQ, (Or.inr ⟨(Or.inl c_1), rfl, rfl, rfl⟩)⟩, rfl⟩ hP hD hS dX2_reach_58
  · refine lv_iload_n hx hb dX2_reach_4 rfl (lv_at hl 1 rfl) ?_
    refine lv_bipush (v := 81) hx hb dX2_reach_5 (by decide) ?_
    refine lv_icmp_ge (tgt := 58) hx hb dX2_reach_7 (by decide) (fun c_2 => ?_) (fun c_2 => ?_)
    · exact wret_v hx hb hr hlocks (J, (va_up I 99 (I 99)), (va_up O 100 (some (a 4))), (va_up (va_up R 4 (R 4)) 6 (R 6)), RO, LL, Y) ⟨(I 99), (some (a 4)), (R 4), (R 6), ⟨rfl, hq, hQ, (Or.inr ⟨(Or.inr (Or.inl c_2)), rfl, rfl, rfl⟩)⟩, rfl⟩ hP hD hS dX2_reach_58
    · refine lv_aload_n hx hb dX2_reach_10 rfl (lv_at hl 0 rfl) ?_
      refine va_get (D := D) (ci := 1) (v := .ref (a 4)) (C := RX2) (T := TX2) (N := 5) hx hb hts hi2 hown hK hP 3 rfl rfl 4 (by decide) hw0 (fun _ h9 => h9) rfl dX2_reach_11 ?_
      refine lv_iload_n hx hb dX2_reach_14 rfl (lv_at hl 1 rfl) ?_
      refine va_iald hx hb hK hP 4 0 rfl rfl (in81f c_1 c_2) dX2_reach_15 ?_
      refine lv_sipush (v := 1000) hx hb dX2_reach_16 (by decide) ?_
      refine lv_icmp_ne (tgt := 58) hx hb dX2_reach_19 (by decide) (fun c_3 => ?_) (fun c_3 => ?_)
      · exact wret_v hx hb hr hlocks (J, (va_up I 99 (I 99)), (va_up O 100 (some (a 4))), (va_up (va_up R 4 (R 4)) 6 (R 6)), RO, LL, Y) ⟨(I 99), (some (a 4)), (R 4), (R 6), ⟨rfl, hq, hQ, (Or.inr ⟨(Or.inr (Or.inr (Or.inl c_3))), rfl, rfl, rfl⟩)⟩, rfl⟩ hP hD hS dX2_reach_58
      · refine lv_aload_n hx hb dX2_reach_22 rfl (lv_at hl 0 rfl) ?_
        refine va_get (D := D) (ci := 1) (v := .int (I 99)) (C := RX2) (T := TX2) (N := 5) hx hb hts hi2 hown hK hP 3 rfl rfl 3 (by decide) hw1 (fun _ h9 => h9) rfl dX2_reach_23 ?_
        refine lv_bipush (v := 81) hx hb dX2_reach_26 (by decide) ?_
        refine lv_icmp_ge (tgt := 58) hx hb dX2_reach_28 (by decide) (fun c_4 => ?_) (fun c_4 => ?_)
        · exact wret_v hx hb hr hlocks (J, (va_up I 99 (I 99)), (va_up O 100 (some (a 4))), (va_up (va_up R 4 (R 4)) 6 (R 6)), RO, LL, Y) ⟨(I 99), (some (a 4)), (R 4), (R 6), ⟨rfl, hq, hQ, (Or.inr ⟨(Or.inr (Or.inr (Or.inr c_4))), rfl, rfl, rfl⟩)⟩, rfl⟩ hP hD hS dX2_reach_58
        · refine lv_aload_n hx hb dX2_reach_31 rfl (lv_at hl 0 rfl) ?_
          refine va_get (D := D) (ci := 1) (v := .ref (a 4)) (C := RX2) (T := TX2) (N := 5) hx hb hts hi2 hown hK hP 3 rfl rfl 4 (by decide) hw0 (fun _ h9 => h9) rfl dX2_reach_32 ?_
          refine lv_iload_n hx hb dX2_reach_35 rfl (lv_at hl 1 rfl) ?_
          refine lv_iload_n hx hb dX2_reach_36 rfl (lv_at hl 2 rfl) ?_
          refine va_iast hx hb hK hP hD hS 4 0 rfl rfl (in81f c_1 c_2) dX2_reach_37 (fun H locs hP hD hS => ?_)
          have hP : va_P D vwCl (CT cy a J (va_up I 99 (I 99)) (va_up O 100 (some (a 4))) (va_up (va_up R 4 (upd (R 4) x0.toNatClampNeg x1)) 6 (R 6)) RO (LL ++ Y)) H := hP
          have hD : va_D A (CT cy a J (va_up I 99 (I 99)) (va_up O 100 (some (a 4))) (va_up (va_up R 4 (upd (R 4) x0.toNatClampNeg x1)) 6 (R 6)) RO (LL ++ Y)) := hD
          refine lv_aload_n hx hb dX2_reach_38 rfl (lv_at hl 0 rfl) ?_
          refine va_get (D := D) (ci := 1) (v := .ref (a 6)) (C := RX2) (T := TX2) (N := 5) hx hb hts hi2 hown hK hP 3 rfl rfl 2 (by decide) hw2 (fun _ h9 => h9) rfl dX2_reach_39 ?_
          refine lv_aload_n hx hb dX2_reach_42 rfl (lv_at hl 0 rfl) ?_
          refine va_get (D := D) (ci := 1) (v := .int (I 99)) (C := RX2) (T := TX2) (N := 5) hx hb hts hi2 hown hK hP 3 rfl rfl 3 (by decide) hw1 (fun _ h9 => h9) rfl dX2_reach_43 ?_
          refine lv_iload_n hx hb dX2_reach_46 rfl (lv_at hl 1 rfl) ?_
          refine va_iast hx hb hK hP hD hS 6 0 rfl rfl (q81 hq c_4) dX2_reach_47 (fun H locs hP hD hS => ?_)
          have hP : va_P D vwCl (CT cy a J (va_up I 99 (I 99)) (va_up O 100 (some (a 4))) (va_up (va_up R 4 (upd (R 4) x0.toNatClampNeg x1)) 6 (upd (R 6) (I 99).toNatClampNeg x0)) RO (LL ++ Y)) H := hP
          have hD : va_D A (CT cy a J (va_up I 99 (I 99)) (va_up O 100 (some (a 4))) (va_up (va_up R 4 (upd (R 4) x0.toNatClampNeg x1)) 6 (upd (R 6) (I 99).toNatClampNeg x0)) RO (LL ++ Y)) := hD
          refine lv_aload_n hx hb dX2_reach_48 rfl (lv_at hl 0 rfl) ?_
          refine lv_dup hx hb dX2_reach_49 rfl ?_
          refine va_get (D := D) (ci := 1) (v := .int (I 99)) (C := RX2) (T := TX2) (N := 5) hx hb hts hi2 hown hK hP 3 rfl rfl 3 (by decide) hw1 (fun _ h9 => h9) rfl dX2_reach_50 ?_
          refine lv_iconst (v := 1) hx hb dX2_reach_53 (by decide) ?_
          refine lv_iadd hx hb dX2_reach_54 ?_
          refine va_put (D := D) (ci := 1) (v := .int ((I 99) + 1)) (ty := .int) (C := RX2) (T := TX2) (N := 5) hx hb hts hi2 tyX2 tyX2_ok nmX2 hown hK hP hD hS 3 rfl rfl 3 (by decide) hw1 (fun _ h9 => h9) rfl (by decide +kernel) rfl rfl (Nat.le_of_ble_eq_true rfl) dX2_reach_55 (fun H locs hP hD hS => ?_)
          have hP : va_P D vwCl (CT cy a J (va_up I 99 ((I 99) + 1)) (va_up O 100 (some (a 4))) (va_up (va_up R 4 (upd (R 4) x0.toNatClampNeg x1)) 6 (upd (R 6) (I 99).toNatClampNeg x0)) RO (LL ++ Y)) H := hP
          have hD : va_D A (CT cy a J (va_up I 99 ((I 99) + 1)) (va_up O 100 (some (a 4))) (va_up (va_up R 4 (upd (R 4) x0.toNatClampNeg x1)) 6 (upd (R 6) (I 99).toNatClampNeg x0)) RO (LL ++ Y)) := hD
          exact wret_v hx hb hr hlocks (J, (va_up I 99 ((I 99) + 1)), (va_up O 100 (some (a 4))), (va_up (va_up R 4 (upd (R 4) x0.toNatClampNeg x1)) 6 (upd (R 6) (I 99).toNatClampNeg x0)), RO, LL, Y) ⟨((I 99) + 1), (some (a 4)), (upd (R 4) x0.toNatClampNeg x1), (upd (R 6) (I 99).toNatClampNeg x0), ⟨rfl, (q82 (q81 hq c_4)), (all81 hQ (in81f c_1 c_2)), (Or.inl ⟨in81f c_1 c_2, c_3, q81 hq c_4, rfl, rfl, rfl⟩)⟩, rfl⟩ hP hD hS dX2_reach_58
set_option maxHeartbeats 4000000 in
set_option maxRecDepth 100000 in
theorem x_X2_measure4 (l : Launch) (D : va_G) (cy : Nat → ClassId) (a : Nat → Nat) (sz : Nat) (J : Nat → Int64) (I : Nat → Int32) (O : Nat → Option Nat) (R : Nat → Nat → Int32) (RO : Nat → Nat → Option Nat) (LL : va_W) (Y : va_W) (x0 : Int64) (x1 : Nat) (y1 : Int32) (al1 ac1 : Int64) (hm1 : laC x1 y1 al1 ac1 ∈ Y) (hQ : ∀ i, i < 81 → vp_in (R 6 i) 81) (hly : LY (bfx x0) (bfx al1) (bfx ac1)) (hwo : cFr (mOut x0) A10 100 = 1 ∧ aPc x0 = 1) : Met l yX2_measure wsX2_measure ({ frames := 3, cells := 0, slots := 0, locals := 69 }) (va_Pc [.ref (a 3), .long x0, .ref x1, .ref (a 4)] (PW D cy sz (CT cy a J I O R RO (LL ++ Y)))) (va_Qv (fun (u : TS) => ∃ (w0 : Int32), ∃ (w1 : Option Nat), ∃ (w2 : Nat → Int32), ∃ (w3 : Nat → Int32), ((∀ i, i < 81 → vp_in (w3 i) 81) ∧ (hVal x0 al1 ac1 (zF0 x0) 1000 w2) ∧ (∀ r, r < 81 → hpt (bfx x0) r = true → -100 ≤ (w2 r).toInt ∧ (w2 r).toInt ≤ 100)) ∧ u = (J, (va_up I 99 w0), (va_up O 100 w1), (va_up (va_up R 4 w2) 6 w3), RO, LL, Y)) (BW D (va_A (CT cy a J I O R RO (LL ++ Y)) sz) (CTu cy a)) (va_A (CT cy a J I O R RO (LL ++ Y)) sz)) 0 0 (va_A (CT cy a J I O R RO (LL ++ Y)) sz) := by
  refine Met.ofW (cc := cX2_measure) (maxL := 9) (ret := none) (by decide) rfl ?_
  intro p e s m args below meth c s₁ B hml hv
  obtain ⟨rfl, rfl, hP, hK, hN, hD0⟩ := hv
  have hx := B.exec
  have hb := B.bytes
  have hr := B.returns
  have hts := atoms_spec (ws := wsX2_measure) B.pre
  have hown : s.vm.findClass RX2 = some m.cls := findClass_of_methodNamed B.named
  have hlocks := B.notSynchronized
  have hw0 := hts (.fieldLink RX2 38 "ParquetLayer$Heights" "queued" "I") (by decide +kernel)
  have hw1 := hts (.fieldLink RX2 16 "ParquetLayer$Heights" "queue" "[I") (by decide +kernel)
  have hw2 := hts (.fieldLink RX2 19 "ParquetLayer$Heights" "target" "[I") (by decide +kernel)
  have hi2 := ihX2_measure_2
  have hD := hD0.self (sz := s.heap.size)
  generalize hAe : va_A (CT cy a J I O R RO (LL ++ Y)) s.heap.size = A at hD ⊢
  have hA : ∀ q : Nat, s.heap.size ≤ q → A q := fun q h => by rw [← hAe]; exact Or.inr h
  have hS : va_S A s.heap s.heap [] := va_S.rf
  have hl := lv_entry ([.ref (a 3), .long x0, .ref x1, .ref (a 4)]) (n := 9) (Nat.le_of_ble_eq_true rfl)
  rw [lg_entry_eq]
  generalize (lg_sl ([.ref (a 3), .long x0, .ref x1, .ref (a 4)]) ++ List.replicate (9 - (lg_sl ([.ref (a 3), .long x0, .ref x1, .ref (a 4)])).length) Slot.unset).toArray = ls at hl ⊢
  have hl : lv_has ls 9 [(0, .ref (a 3)), (1, .long x0), (3, .ref x1), (4, .ref (a 4))] := hl
  have hZH := zH_t hwo.1 hly
  have hf0 := zF0_t hwo.2
  have hfp9 : hTL (zF0 x0) < 81 := Nat.lt_trans (hTL_lt hf0.1) (by decide)
  have lp31 : ∀ (n31 : Nat), ∀ (i : Nat) (m0_31 : Int32) (m1_31 : Option Nat) (m2_31 : Nat → Int32) (m3_31 : Nat → Int32), (i ≤ 81) → (m1_31 = some (a 4)) → (vp_in m0_31 82) → (∀ i, i < 81 → vp_in (m3_31 i) 81) → (bS x0 al1 ac1 (hTL (zF0 x0)) m2_31 m3_31 m0_31 i) → (81 - i) < n31 → ∀ (H : Heap) (locs : List Loc), va_P D vwCl (CT cy a J (va_up I 99 m0_31) (va_up O 100 m1_31) (va_up (va_up R 4 m2_31) 6 m3_31) RO (LL ++ Y)) H → va_D A (CT cy a J (va_up I 99 m0_31) (va_up O 100 m1_31) (va_up (va_up R 4 m2_31) 6 m3_31) RO (LL ++ Y)) → va_S A s.heap H locs → ∀ (ls : Array Slot), lv_has ls 9 [(0, .ref (a 3)), (1, .long x0), (3, .ref x1), (4, .ref (a 4)), (5, .int (nI i))] → W p l e (headSpec wsX2_measure ({ frames := 3, cells := 0, slots := 0, locals := 69 })).room s m ([.ref (a 3), .long x0, .ref x1, .ref (a 4)] : List Value).toArray below meth c H locs 0 0 (MQ below (va_Qv (fun (u : TS) => ∃ (w0 : Int32), ∃ (w1 : Option Nat), ∃ (w2 : Nat → Int32), ∃ (w3 : Nat → Int32), ((∀ i, i < 81 → vp_in (w3 i) 81) ∧ (hVal x0 al1 ac1 (zF0 x0) 1000 w2) ∧ (∀ r, r < 81 → hpt (bfx x0) r = true → -100 ≤ (w2 r).toInt ∧ (w2 r).toInt ≤ 100)) ∧ u = (J, (va_up I 99 w0), (va_up O 100 w1), (va_up (va_up R 4 w2) 6 w3), RO, LL, Y)) (BW D A (CTu cy a)) A) ([.ref (a 3), .long x0, .ref x1, .ref (a 4)] : List Value).toArray s 0 0 A) (F0 m 31 ls []) := by
    intro n31
    induction n31 with
    | zero => intro i m0_31 m1_31 m2_31 m3_31 hi hT hq hQ hbs hn; exact absurd hn (Nat.not_lt_zero _)
    | succ n31 ih31 =>
      intro i m0_31 m1_31 m2_31 m3_31 hi hT hq hQ hbs hn31 H locs hP hD hS ls hl
      have lp118 : ∀ (p9 : Nat) (v8_118 : Int32) (m0_118 : Int32) (m1_118 : Option Nat) (m2_118 : Nat → Int32) (m3_118 : Nat → Int32), (m1_118 = some (a 4)) → (vp_in m0_118 82) → (∀ i, i < 81 → vp_in (m3_118 i) 81) → (i < 81) → (bT x0 al1 ac1 (hTL (zF0 x0)) 1 m2_118 m3_118 m0_118 i p9 v8_118) → ∀ (H : Heap) (locs : List Loc), va_P D vwCl (CT cy a J (va_up I 99 m0_118) (va_up O 100 m1_118) (va_up (va_up R 4 m2_118) 6 m3_118) RO (LL ++ Y)) H → va_D A (CT cy a J (va_up I 99 m0_118) (va_up O 100 m1_118) (va_up (va_up R 4 m2_118) 6 m3_118) RO (LL ++ Y)) → va_S A s.heap H locs → ∀ (ls : Array Slot), lv_has ls 9 [(0, .ref (a 3)), (1, .long x0), (3, .ref x1), (4, .ref (a 4)), (5, .int (nI i)), (6, .int (nI p9 - nI p9 / 9 * 9)), (7, .int (nI p9 / 9)), (8, .int v8_118)] → W p l e (headSpec wsX2_measure ({ frames := 3, cells := 0, slots := 0, locals := 69 })).room s m ([.ref (a 3), .long x0, .ref x1, .ref (a 4)] : List Value).toArray below meth c H locs 0 0 (MQ below (va_Qv (fun (u : TS) => ∃ (w0 : Int32), ∃ (w1 : Option Nat), ∃ (w2 : Nat → Int32), ∃ (w3 : Nat → Int32), ((∀ i, i < 81 → vp_in (w3 i) 81) ∧ (hVal x0 al1 ac1 (zF0 x0) 1000 w2) ∧ (∀ r, r < 81 → hpt (bfx x0) r = true → -100 ≤ (w2 r).toInt ∧ (w2 r).toInt ≤ 100)) ∧ u = (J, (va_up I 99 w0), (va_up O 100 w1), (va_up (va_up R 4 w2) 6 w3), RO, LL, Y)) (BW D A (CTu cy a)) A) ([.ref (a 3), .long x0, .ref x1, .ref (a 4)] : List Value).toArray s 0 0 A) (F0 m 118 ls []) := by
        intro p9 v8_118 m0_118 m1_118 m2_118 m3_118 hT hq hQ hlt_i hbt1 H locs hP hD hS ls hl
        have lp157 : ∀ (p9 : Nat) (v8_157 : Int32) (m0_157 : Int32) (m1_157 : Option Nat) (m2_157 : Nat → Int32) (m3_157 : Nat → Int32), (m1_157 = some (a 4)) → (vp_in m0_157 82) → (∀ i, i < 81 → vp_in (m3_157 i) 81) → (i < 81) → (bT x0 al1 ac1 (hTL (zF0 x0)) 2 m2_157 m3_157 m0_157 i p9 v8_157) → ∀ (H : Heap) (locs : List Loc), va_P D vwCl (CT cy a J (va_up I 99 m0_157) (va_up O 100 m1_157) (va_up (va_up R 4 m2_157) 6 m3_157) RO (LL ++ Y)) H → va_D A (CT cy a J (va_up I 99 m0_157) (va_up O 100 m1_157) (va_up (va_up R 4 m2_157) 6 m3_157) RO (LL ++ Y)) → va_S A s.heap H locs → ∀ (ls : Array Slot), lv_has ls 9 [(0, .ref (a 3)), (1, .long x0), (3, .ref x1), (4, .ref (a 4)), (5, .int (nI i)), (6, .int (nI p9 - nI p9 / 9 * 9)), (7, .int (nI p9 / 9)), (8, .int v8_157)] → W p l e (headSpec wsX2_measure ({ frames := 3, cells := 0, slots := 0, locals := 69 })).room s m ([.ref (a 3), .long x0, .ref x1, .ref (a 4)] : List Value).toArray below meth c H locs 0 0 (MQ below (va_Qv (fun (u : TS) => ∃ (w0 : Int32), ∃ (w1 : Option Nat), ∃ (w2 : Nat → Int32), ∃ (w3 : Nat → Int32), ((∀ i, i < 81 → vp_in (w3 i) 81) ∧ (hVal x0 al1 ac1 (zF0 x0) 1000 w2) ∧ (∀ r, r < 81 → hpt (bfx x0) r = true → -100 ≤ (w2 r).toInt ∧ (w2 r).toInt ≤ 100)) ∧ u = (J, (va_up I 99 w0), (va_up O 100 w1), (va_up (va_up R 4 w2) 6 w3), RO, LL, Y)) (BW D A (CTu cy a)) A) ([.ref (a 3), .long x0, .ref x1, .ref (a 4)] : List Value).toArray s 0 0 A) (F0 m 157 ls []) := by
          intro p9 v8_157 m0_157 m1_157 m2_157 m3_157 hT hq hQ hlt_i hbt2 H locs hP hD hS ls hl
          have lp192 : ∀ (p9 : Nat) (v8_192 : Int32) (m0_192 : Int32) (m1_192 : Option Nat) (m2_192 : Nat → Int32) (m3_192 : Nat → Int32), (m1_192 = some (a 4)) → (vp_in m0_192 82) → (∀ i, i < 81 → vp_in (m3_192 i) 81) → (i < 81) → (bT x0 al1 ac1 (hTL (zF0 x0)) 3 m2_192 m3_192 m0_192 i p9 v8_192) → ∀ (H : Heap) (locs : List Loc), va_P D vwCl (CT cy a J (va_up I 99 m0_192) (va_up O 100 m1_192) (va_up (va_up R 4 m2_192) 6 m3_192) RO (LL ++ Y)) H → va_D A (CT cy a J (va_up I 99 m0_192) (va_up O 100 m1_192) (va_up (va_up R 4 m2_192) 6 m3_192) RO (LL ++ Y)) → va_S A s.heap H locs → ∀ (ls : Array Slot), lv_has ls 9 [(0, .ref (a 3)), (1, .long x0), (3, .ref x1), (4, .ref (a 4)), (5, .int (nI i)), (6, .int (nI p9 - nI p9 / 9 * 9)), (7, .int (nI p9 / 9)), (8, .int v8_192)] → W p l e (headSpec wsX2_measure ({ frames := 3, cells := 0, slots := 0, locals := 69 })).room s m ([.ref (a 3), .long x0, .ref x1, .ref (a 4)] : List Value).toArray below meth c H locs 0 0 (MQ below (va_Qv (fun (u : TS) => ∃ (w0 : Int32), ∃ (w1 : Option Nat), ∃ (w2 : Nat → Int32), ∃ (w3 : Nat → Int32), ((∀ i, i < 81 → vp_in (w3 i) 81) ∧ (hVal x0 al1 ac1 (zF0 x0) 1000 w2) ∧ (∀ r, r < 81 → hpt (bfx x0) r = true → -100 ≤ (w2 r).toInt ∧ (w2 r).toInt ≤ 100)) ∧ u = (J, (va_up I 99 w0), (va_up O 100 w1), (va_up (va_up R 4 w2) 6 w3), RO, LL, Y)) (BW D A (CTu cy a)) A) ([.ref (a 3), .long x0, .ref x1, .ref (a 4)] : List Value).toArray s 0 0 A) (F0 m 192 ls []) := by
            intro p9 v8_192 m0_192 m1_192 m2_192 m3_192 hT hq hQ hlt_i hbt3 H locs hP hD hS ls hl
            refine lv_lload_n hx hb dX2_measure_192 rfl (lv_at hl 1 rfl) ?_
            refine lv_aload_n hx hb dX2_measure_193 rfl (lv_at hl 2 rfl) ?_
            refine lv_iload hx hb dX2_measure_194 (lv_at hl 5 rfl) ?_
            refine lv_iload hx hb dX2_measure_196 (lv_at hl 6 rfl) ?_
            refine lv_iconst (v := 1) hx hb dX2_measure_198 (by decide) ?_
            refine lv_isub hx hb dX2_measure_199 ?_
            obtain ⟨k_1, hk_2⟩ : ∃ k : Nat, (CT cy a J (va_up I 99 m0_192) (va_up O 100 m1_192) (va_up (va_up R 4 m2_192) 6 m3_192) RO (LL ++ Y))[k]? = some (x1, .inr (2, [.int y1, .long al1, .long ac1])) := pixT hm1
            refine kWR_i (As := [.long x0, .ref x1, .int (nI p9 - nI p9 / 9 * 9), .int ((nI p9 / 9) - 1)]) (rest := []) ⟨hx, hb, hml, hown, hts⟩ (x_X2_isOpenSteep l D cy _ (CT cy a J (va_up I 99 m0_192) (va_up O 100 m1_192) (va_up (va_up R 4 m2_192) 6 m3_192) RO (LL ++ Y)) k_1 x1 y1 al1 ac1 hk_2 x0 (nI p9 - nI p9 / 9 * 9) ((nI p9 / 9) - 1)) (va_cwS 4 hts gX2_measure_X2_isOpenSteep rfl rfl rfl (by decide +kernel) ⟨Nat.le_of_ble_eq_true rfl, Nat.le_of_ble_eq_true rfl⟩) hK hN hP hD rfl hl.1 rfl (Nat.le_of_ble_eq_true rfl) dX2_measure_200 ⟨Nat.le_of_ble_eq_true rfl, Nat.le_of_ble_eq_true rfl⟩ ?_
            refine lv_if_eq (tgt := 231) hx hb dX2_measure_203 (by decide) (fun c_3 => ?_) (fun c_3 => ?_)
            · replace c_3 := bI_f c_3
              refine lv_iinc (v := nI (i + 1)) (lv' := [(5, .int (nI (i + 1))), (0, .ref (a 3)), (1, .long x0), (3, .ref x1), (4, .ref (a 4)), (6, .int (nI p9 - nI p9 / 9 * 9)), (7, .int (nI p9 / 9)), (8, .int v8_192)]) hx hb dX2_measure_231 hl (k := 4) rfl (nI_1 _) (by decide) rfl (fun ls hl => ?_)
              refine lv_goto (tgt := 31) hx hb dX2_measure_234 (by decide) ?_
              exact ih31 (i + 1) m0_192 m1_192 m2_192 m3_192 hlt_i hT hq hQ (bs_4n hbt3 c_3) (lt_dec hlt_i hn31) _ _ hP hD hS ls (lv_sub hl [1, 2, 3, 4, 0] rfl)
            · replace c_3 := bI_t c_3
              refine lv_aload_n hx hb dX2_measure_206 rfl (lv_at hl 0 rfl) ?_
              refine lv_iload hx hb dX2_measure_207 (lv_at hl 5 rfl) ?_
              refine lv_iload hx hb dX2_measure_209 (lv_at hl 6 rfl) ?_
              refine lv_iconst (v := 1) hx hb dX2_measure_211 (by decide) ?_
              refine lv_isub hx hb dX2_measure_212 ?_
              refine kS_i (As := [.int (nI p9 - nI p9 / 9 * 9), .int ((nI p9 / 9) - 1)]) (rest := [.ref (a 3)]) ⟨hx, hb, hml, hown, hts⟩ (c_X2_pointOf l (nI p9 - nI p9 / 9 * 9) ((nI p9 / 9) - 1)) (va_cwS 2 hts gX2_measure_X2_pointOf rfl rfl rfl (by decide +kernel) ⟨Nat.le_of_ble_eq_true rfl, Nat.le_of_ble_eq_true rfl⟩) rfl hl.1 rfl (Nat.le_of_ble_eq_true rfl) dX2_measure_213 ⟨Nat.le_of_ble_eq_true rfl, Nat.le_of_ble_eq_true rfl⟩ ?_
              refine lv_iload hx hb dX2_measure_216 (lv_at hl 7 rfl) ?_
              refine lv_iload hx hb dX2_measure_218 (lv_at hl 5 rfl) ?_
              refine lv_iload hx hb dX2_measure_220 (lv_at hl 6 rfl) ?_
              refine lv_iconst (v := 1) hx hb dX2_measure_222 (by decide) ?_
              refine lv_isub hx hb dX2_measure_223 ?_
              refine kS_i (As := [.int (nI p9 - nI p9 / 9 * 9), .int ((nI p9 / 9) - 1)]) (rest := [.int v8_192, .int (9 * ((nI p9 / 9) - 1) + (nI p9 - nI p9 / 9 * 9)), .ref (a 3)]) ⟨hx, hb, hml, hown, hts⟩ (x_X2_riseRight l (nI p9 - nI p9 / 9 * 9) ((nI p9 / 9) - 1)) (va_cwS 2 hts gX2_measure_X2_riseRight rfl rfl rfl (by decide +kernel) ⟨Nat.le_of_ble_eq_true rfl, Nat.le_of_ble_eq_true rfl⟩) rfl hl.1 rfl (Nat.le_of_ble_eq_true rfl) dX2_measure_224 ⟨Nat.le_of_ble_eq_true rfl, Nat.le_of_ble_eq_true rfl⟩ ?_
              refine lv_iadd hx hb dX2_measure_227 ?_
              refine kM_v (As := [.int (9 * ((nI p9 / 9) - 1) + (nI p9 - nI p9 / 9 * 9)), .int (v8_192 + (g_rise (nI p9 - nI p9 / 9 * 9) ((nI p9 / 9) - 1)))]) (rest := []) (q0 := 3) ⟨hx, hb, hml, hown, hts⟩ (x_X2_reach4 l D cy a _ J (va_up I 99 m0_192) (va_up O 100 m1_192) (va_up (va_up R 4 m2_192) 6 m3_192) RO LL Y (9 * ((nI p9 / 9) - 1) + (nI p9 - nI p9 / 9 * 9)) (v8_192 + (g_rise (nI p9 - nI p9 / 9 * 9) ((nI p9 / 9) - 1))) hT hq hQ  ) (cwV 2 hts gX2_measure_X2_reach rfl rfl rfl (by decide +kernel) ⟨Nat.le_of_ble_eq_true rfl, Nat.le_of_ble_eq_true rfl⟩) hK hN hP hD hS hA rfl rfl rfl hl.1 rfl (Nat.le_of_ble_eq_true rfl) dX2_measure_228 ⟨Nat.le_of_ble_eq_true rfl, Nat.le_of_ble_eq_true rfl⟩ (fun u H locs hw hP hD hS => ?_)
              obtain ⟨w_5, w_6, w_7, w_8, ⟨hp_9, hp_10, hp_11, hp_12⟩, rfl⟩ := hw
              have hP : va_P D vwCl (CT cy a J (va_up I 99 w_5) (va_up O 100 w_6) (va_up (va_up R 4 w_7) 6 w_8) RO (LL ++ Y)) H := hP
              have hD : va_D A (CT cy a J (va_up I 99 w_5) (va_up O 100 w_6) (va_up (va_up R 4 w_7) 6 w_8) RO (LL ++ Y)) := hD
              refine lv_iinc (v := nI (i + 1)) (lv' := [(5, .int (nI (i + 1))), (0, .ref (a 3)), (1, .long x0), (3, .ref x1), (4, .ref (a 4)), (6, .int (nI p9 - nI p9 / 9 * 9)), (7, .int (nI p9 / 9)), (8, .int v8_192)]) hx hb dX2_measure_231 hl (k := 4) rfl (nI_1 _) (by decide) rfl (fun ls hl => ?_)
              refine lv_goto (tgt := 31) hx hb dX2_measure_234 (by decide) ?_
              exact ih31 (i + 1) w_5 w_6 w_7 w_8 hlt_i hp_9 hp_10 hp_11 (bs_4y hZH hfp9 hbt3 c_3 hp_12) (lt_dec hlt_i hn31) _ _ hP hD hS ls (lv_sub hl [1, 2, 3, 4, 0] rfl)
          refine lv_lload_n hx hb dX2_measure_157 rfl (lv_at hl 1 rfl) ?_
          refine lv_aload_n hx hb dX2_measure_158 rfl (lv_at hl 2 rfl) ?_
          refine lv_iload hx hb dX2_measure_159 (lv_at hl 5 rfl) ?_
          refine lv_iload hx hb dX2_measure_161 (lv_at hl 6 rfl) ?_
          obtain ⟨k_13, hk_14⟩ : ∃ k : Nat, (CT cy a J (va_up I 99 m0_157) (va_up O 100 m1_157) (va_up (va_up R 4 m2_157) 6 m3_157) RO (LL ++ Y))[k]? = some (x1, .inr (2, [.int y1, .long al1, .long ac1])) := pixT hm1
          refine kWR_i (As := [.long x0, .ref x1, .int (nI p9 - nI p9 / 9 * 9), .int (nI p9 / 9)]) (rest := []) ⟨hx, hb, hml, hown, hts⟩ (x_X2_isOpenSteep l D cy _ (CT cy a J (va_up I 99 m0_157) (va_up O 100 m1_157) (va_up (va_up R 4 m2_157) 6 m3_157) RO (LL ++ Y)) k_13 x1 y1 al1 ac1 hk_14 x0 (nI p9 - nI p9 / 9 * 9) (nI p9 / 9)) (va_cwS 4 hts gX2_measure_X2_isOpenSteep rfl rfl rfl (by decide +kernel) ⟨Nat.le_of_ble_eq_true rfl, Nat.le_of_ble_eq_true rfl⟩) hK hN hP hD rfl hl.1 rfl (Nat.le_of_ble_eq_true rfl) dX2_measure_163 ⟨Nat.le_of_ble_eq_true rfl, Nat.le_of_ble_eq_true rfl⟩ ?_
          refine lv_if_eq (tgt := 192) hx hb dX2_measure_166 (by decide) (fun c_15 => ?_) (fun c_15 => ?_)
          · replace c_15 := bI_f c_15
            exact lp192 p9 v8_157 m0_157 m1_157 m2_157 m3_157 hT hq hQ hlt_i (bs_3n hbt2 c_15)  _ _ hP hD hS ls (lv_sub hl [0, 1, 2, 3, 4, 5, 6, 7] rfl)
          · replace c_15 := bI_t c_15
            refine lv_aload_n hx hb dX2_measure_169 rfl (lv_at hl 0 rfl) ?_
            refine lv_iload hx hb dX2_measure_170 (lv_at hl 5 rfl) ?_
            refine lv_iload hx hb dX2_measure_172 (lv_at hl 6 rfl) ?_
            refine lv_iconst (v := 1) hx hb dX2_measure_174 (by decide) ?_
            refine lv_iadd hx hb dX2_measure_175 ?_
            refine kS_i (As := [.int (nI p9 - nI p9 / 9 * 9), .int ((nI p9 / 9) + 1)]) (rest := [.ref (a 3)]) ⟨hx, hb, hml, hown, hts⟩ (c_X2_pointOf l (nI p9 - nI p9 / 9 * 9) ((nI p9 / 9) + 1)) (va_cwS 2 hts gX2_measure_X2_pointOf rfl rfl rfl (by decide +kernel) ⟨Nat.le_of_ble_eq_true rfl, Nat.le_of_ble_eq_true rfl⟩) rfl hl.1 rfl (Nat.le_of_ble_eq_true rfl) dX2_measure_176 ⟨Nat.le_of_ble_eq_true rfl, Nat.le_of_ble_eq_true rfl⟩ ?_
            refine lv_iload hx hb dX2_measure_179 (lv_at hl 7 rfl) ?_
            refine lv_iload hx hb dX2_measure_181 (lv_at hl 5 rfl) ?_
            refine lv_iload hx hb dX2_measure_183 (lv_at hl 6 rfl) ?_
            refine kS_i (As := [.int (nI p9 - nI p9 / 9 * 9), .int (nI p9 / 9)]) (rest := [.int v8_157, .int (9 * ((nI p9 / 9) + 1) + (nI p9 - nI p9 / 9 * 9)), .ref (a 3)]) ⟨hx, hb, hml, hown, hts⟩ (x_X2_riseRight l (nI p9 - nI p9 / 9 * 9) (nI p9 / 9)) (va_cwS 2 hts gX2_measure_X2_riseRight rfl rfl rfl (by decide +kernel) ⟨Nat.le_of_ble_eq_true rfl, Nat.le_of_ble_eq_true rfl⟩) rfl hl.1 rfl (Nat.le_of_ble_eq_true rfl) dX2_measure_185 ⟨Nat.le_of_ble_eq_true rfl, Nat.le_of_ble_eq_true rfl⟩ ?_
            refine lv_isub hx hb dX2_measure_188 ?_
            refine kM_v (As := [.int (9 * ((nI p9 / 9) + 1) + (nI p9 - nI p9 / 9 * 9)), .int (v8_157 - (g_rise (nI p9 - nI p9 / 9 * 9) (nI p9 / 9)))]) (rest := []) (q0 := 3) ⟨hx, hb, hml, hown, hts⟩ (x_X2_reach4 l D cy a _ J (va_up I 99 m0_157) (va_up O 100 m1_157) (va_up (va_up R 4 m2_157) 6 m3_157) RO LL Y (9 * ((nI p9 / 9) + 1) + (nI p9 - nI p9 / 9 * 9)) (v8_157 - (g_rise (nI p9 - nI p9 / 9 * 9) (nI p9 / 9))) hT hq hQ  ) (cwV 2 hts gX2_measure_X2_reach rfl rfl rfl (by decide +kernel) ⟨Nat.le_of_ble_eq_true rfl, Nat.le_of_ble_eq_true rfl⟩) hK hN hP hD hS hA rfl rfl rfl hl.1 rfl (Nat.le_of_ble_eq_true rfl) dX2_measure_189 ⟨Nat.le_of_ble_eq_true rfl, Nat.le_of_ble_eq_true rfl⟩ (fun u H locs hw hP hD hS => ?_)
            obtain ⟨w_17, w_18, w_19, w_20, ⟨hp_21, hp_22, hp_23, hp_24⟩, rfl⟩ := hw
            have hP : va_P D vwCl (CT cy a J (va_up I 99 w_17) (va_up O 100 w_18) (va_up (va_up R 4 w_19) 6 w_20) RO (LL ++ Y)) H := hP
            have hD : va_D A (CT cy a J (va_up I 99 w_17) (va_up O 100 w_18) (va_up (va_up R 4 w_19) 6 w_20) RO (LL ++ Y)) := hD
            exact lp192 p9 v8_157 w_17 w_18 w_19 w_20 hp_21 hp_22 hp_23 hlt_i (bs_3y hZH hfp9 hbt2 c_15 hp_24)  _ _ hP hD hS ls (lv_sub hl [0, 1, 2, 3, 4, 5, 6, 7] rfl)
        refine lv_lload_n hx hb dX2_measure_118 rfl (lv_at hl 1 rfl) ?_
        refine lv_aload_n hx hb dX2_measure_119 rfl (lv_at hl 2 rfl) ?_
        refine lv_iload hx hb dX2_measure_120 (lv_at hl 5 rfl) ?_
        refine lv_iconst (v := 1) hx hb dX2_measure_122 (by decide) ?_
        refine lv_isub hx hb dX2_measure_123 ?_
        refine lv_iload hx hb dX2_measure_124 (lv_at hl 6 rfl) ?_
        obtain ⟨k_25, hk_26⟩ : ∃ k : Nat, (CT cy a J (va_up I 99 m0_118) (va_up O 100 m1_118) (va_up (va_up R 4 m2_118) 6 m3_118) RO (LL ++ Y))[k]? = some (x1, .inr (2, [.int y1, .long al1, .long ac1])) := pixT hm1
        refine kWR_i (As := [.long x0, .ref x1, .int ((nI p9 - nI p9 / 9 * 9) - 1), .int (nI p9 / 9)]) (rest := []) ⟨hx, hb, hml, hown, hts⟩ (x_X2_isOpenFlat l D cy _ (CT cy a J (va_up I 99 m0_118) (va_up O 100 m1_118) (va_up (va_up R 4 m2_118) 6 m3_118) RO (LL ++ Y)) k_25 x1 y1 al1 ac1 hk_26 x0 ((nI p9 - nI p9 / 9 * 9) - 1) (nI p9 / 9)) (va_cwS 4 hts gX2_measure_X2_isOpenFlat rfl rfl rfl (by decide +kernel) ⟨Nat.le_of_ble_eq_true rfl, Nat.le_of_ble_eq_true rfl⟩) hK hN hP hD rfl hl.1 rfl (Nat.le_of_ble_eq_true rfl) dX2_measure_126 ⟨Nat.le_of_ble_eq_true rfl, Nat.le_of_ble_eq_true rfl⟩ ?_
        refine lv_if_eq (tgt := 157) hx hb dX2_measure_129 (by decide) (fun c_27 => ?_) (fun c_27 => ?_)
        · replace c_27 := bI_f c_27
          exact lp157 p9 v8_118 m0_118 m1_118 m2_118 m3_118 hT hq hQ hlt_i (bs_2n hbt1 c_27)  _ _ hP hD hS ls (lv_sub hl [0, 1, 2, 3, 4, 5, 6, 7] rfl)
        · replace c_27 := bI_t c_27
          refine lv_aload_n hx hb dX2_measure_132 rfl (lv_at hl 0 rfl) ?_
          refine lv_iload hx hb dX2_measure_133 (lv_at hl 5 rfl) ?_
          refine lv_iconst (v := 1) hx hb dX2_measure_135 (by decide) ?_
          refine lv_isub hx hb dX2_measure_136 ?_
          refine lv_iload hx hb dX2_measure_137 (lv_at hl 6 rfl) ?_
          refine kS_i (As := [.int ((nI p9 - nI p9 / 9 * 9) - 1), .int (nI p9 / 9)]) (rest := [.ref (a 3)]) ⟨hx, hb, hml, hown, hts⟩ (c_X2_pointOf l ((nI p9 - nI p9 / 9 * 9) - 1) (nI p9 / 9)) (va_cwS 2 hts gX2_measure_X2_pointOf rfl rfl rfl (by decide +kernel) ⟨Nat.le_of_ble_eq_true rfl, Nat.le_of_ble_eq_true rfl⟩) rfl hl.1 rfl (Nat.le_of_ble_eq_true rfl) dX2_measure_139 ⟨Nat.le_of_ble_eq_true rfl, Nat.le_of_ble_eq_true rfl⟩ ?_
          refine lv_iload hx hb dX2_measure_142 (lv_at hl 7 rfl) ?_
          refine lv_iload hx hb dX2_measure_144 (lv_at hl 5 rfl) ?_
          refine lv_iconst (v := 1) hx hb dX2_measure_146 (by decide) ?_
          refine lv_isub hx hb dX2_measure_147 ?_
          refine lv_iload hx hb dX2_measure_148 (lv_at hl 6 rfl) ?_
          refine kS_i (As := [.int ((nI p9 - nI p9 / 9 * 9) - 1), .int (nI p9 / 9)]) (rest := [.int v8_118, .int (9 * (nI p9 / 9) + ((nI p9 - nI p9 / 9 * 9) - 1)), .ref (a 3)]) ⟨hx, hb, hml, hown, hts⟩ (x_X2_riseRight l ((nI p9 - nI p9 / 9 * 9) - 1) (nI p9 / 9)) (va_cwS 2 hts gX2_measure_X2_riseRight rfl rfl rfl (by decide +kernel) ⟨Nat.le_of_ble_eq_true rfl, Nat.le_of_ble_eq_true rfl⟩) rfl hl.1 rfl (Nat.le_of_ble_eq_true rfl) dX2_measure_150 ⟨Nat.le_of_ble_eq_true rfl, Nat.le_of_ble_eq_true rfl⟩ ?_
          refine lv_isub hx hb dX2_measure_153 ?_
          refine kM_v (As := [.int (9 * (nI p9 / 9) + ((nI p9 - nI p9 / 9 * 9) - 1)), .int (v8_118 - (g_rise ((nI p9 - nI p9 / 9 * 9) - 1) (nI p9 / 9)))]) (rest := []) (q0 := 3) ⟨hx, hb, hml, hown, hts⟩ (x_X2_reach4 l D cy a _ J (va_up I 99 m0_118) (va_up O 100 m1_118) (va_up (va_up R 4 m2_118) 6 m3_118) RO LL Y (9 * (nI p9 / 9) + ((nI p9 - nI p9 / 9 * 9) - 1)) (v8_118 - (g_rise ((nI p9 - nI p9 / 9 * 9) - 1) (nI p9 / 9))) hT hq hQ  ) (cwV 2 hts gX2_measure_X2_reach rfl rfl rfl (by decide +kernel) ⟨Nat.le_of_ble_eq_true rfl, Nat.le_of_ble_eq_true rfl⟩) hK hN hP hD hS hA rfl rfl rfl hl.1 rfl (Nat.le_of_ble_eq_true rfl) dX2_measure_154 ⟨Nat.le_of_ble_eq_true rfl, Nat.le_of_ble_eq_true rfl⟩ (fun u H locs hw hP hD hS => ?_)
          obtain ⟨w_29, w_30, w_31, w_32, ⟨hp_33, hp_34, hp_35, hp_36⟩, rfl⟩ := hw
          have hP : va_P D vwCl (CT cy a J (va_up I 99 w_29) (va_up O 100 w_30) (va_up (va_up R 4 w_31) 6 w_32) RO (LL ++ Y)) H := hP
          have hD : va_D A (CT cy a J (va_up I 99 w_29) (va_up O 100 w_30) (va_up (va_up R 4 w_31) 6 w_32) RO (LL ++ Y)) := hD
          exact lp157 p9 v8_118 w_29 w_30 w_31 w_32 hp_33 hp_34 hp_35 hlt_i (bs_2y hZH hfp9 hbt1 c_27 hp_36)  _ _ hP hD hS ls (lv_sub hl [0, 1, 2, 3, 4, 5, 6, 7] rfl)
      refine lv_iload hx hb dX2_measure_31 (lv_at hl 4 rfl) ?_
      refine lv_bipush (v := 81) hx hb dX2_measure_33 (by decide) ?_
      refine lv_icmp_ge (tgt := 237) hx hb dX2_measure_35 (by decide) (fun c_37 => ?_) (fun c_37 => ?_)
      · have hie_i := ctr_ge (N := 81) (by decide) hi c_37
        exact wret_v hx hb hr hlocks (J, (va_up I 99 m0_31), (va_up O 100 m1_31), (va_up (va_up R 4 m2_31) 6 m3_31), RO, LL, Y) ⟨m0_31, m1_31, m2_31, m3_31, ⟨hQ, (bS_e hly hwo.2 hf0 hi hbs (Or.inr hie_i)), (bS_bd hly hwo.2 hf0 hi hbs (Or.inr hie_i))⟩, rfl⟩ hP hD hS dX2_measure_237
      · have hlt_i := ctr_lt (N := 81) (by decide) hi c_37
        refine lv_iload hx hb dX2_measure_38 (lv_at hl 4 rfl) ?_
        refine lv_aload_n hx hb dX2_measure_40 rfl (lv_at hl 0 rfl) ?_
        refine va_get (D := D) (ci := 1) (v := .int m0_31) (C := RX2) (T := TX2) (N := 5) hx hb hts hi2 hown hK hP 3 rfl rfl 3 (by decide) hw0 (fun _ h9 => h9) rfl dX2_measure_41 ?_
        refine lv_icmp_ge (tgt := 237) hx hb dX2_measure_44 (by decide) (fun c_38 => ?_) (fun c_38 => ?_)
        · exact wret_v hx hb hr hlocks (J, (va_up I 99 m0_31), (va_up O 100 m1_31), (va_up (va_up R 4 m2_31) 6 m3_31), RO, LL, Y) ⟨m0_31, m1_31, m2_31, m3_31, ⟨hQ, (bS_e hly hwo.2 hf0 hi hbs (Or.inl c_38)), (bS_bd hly hwo.2 hf0 hi hbs (Or.inl c_38))⟩, rfl⟩ hP hD hS dX2_measure_237
        · obtain ⟨p9, ep9, hbt0⟩ := bS_t hlt_i hbs c_38
          refine lv_aload_n hx hb dX2_measure_47 rfl (lv_at hl 0 rfl) ?_
          refine va_get (D := D) (ci := 1) (v := .ref (a 6)) (C := RX2) (T := TX2) (N := 5) hx hb hts hi2 hown hK hP 3 rfl rfl 2 (by decide) hw1 (fun _ h9 => h9) rfl dX2_measure_48 ?_
          refine lv_iload hx hb dX2_measure_51 (lv_at hl 4 rfl) ?_
          refine va_iald hx hb hK hP 6 0 rfl rfl (vp_in_nI hlt_i (by decide)) dX2_measure_53 ?_
          refine wtop_i (y := nI p9) ep9 ?_
          refine lv_bipush (v := 9) hx hb dX2_measure_54 (by decide) ?_
          refine lv_irem hx hb dX2_measure_56 (by decide) ?_
          refine lv_istore (lv' := [(6, .int ((nI p9) - (nI p9) / 9 * 9)), (0, .ref (a 3)), (1, .long x0), (3, .ref x1), (4, .ref (a 4)), (5, .int (nI i))]) hx hb dX2_measure_57 hl (by decide) rfl (fun ls hl => ?_)
          refine lv_aload_n hx hb dX2_measure_59 rfl (lv_at hl 1 rfl) ?_
          refine va_get (D := D) (ci := 1) (v := .ref (a 6)) (C := RX2) (T := TX2) (N := 5) hx hb hts hi2 hown hK hP 3 rfl rfl 2 (by decide) hw1 (fun _ h9 => h9) rfl dX2_measure_60 ?_
          refine lv_iload hx hb dX2_measure_63 (lv_at hl 5 rfl) ?_
          refine va_iald hx hb hK hP 6 0 rfl rfl (vp_in_nI hlt_i (by decide)) dX2_measure_65 ?_
          refine wtop_i (y := nI p9) ep9 ?_
          refine lv_bipush (v := 9) hx hb dX2_measure_66 (by decide) ?_
          refine lv_idiv hx hb dX2_measure_68 (by decide) ?_
          refine lv_istore (lv' := [(7, .int ((nI p9) / 9)), (6, .int ((nI p9) - (nI p9) / 9 * 9)), (0, .ref (a 3)), (1, .long x0), (3, .ref x1), (4, .ref (a 4)), (5, .int (nI i))]) hx hb dX2_measure_69 hl (by decide) rfl (fun ls hl => ?_)
          refine lv_aload hx hb dX2_measure_71 (lv_at hl 5 rfl) ?_
          refine lv_aload_n hx hb dX2_measure_73 rfl (lv_at hl 2 rfl) ?_
          refine va_get (D := D) (ci := 1) (v := .ref (a 6)) (C := RX2) (T := TX2) (N := 5) hx hb hts hi2 hown hK hP 3 rfl rfl 2 (by decide) hw1 (fun _ h9 => h9) rfl dX2_measure_74 ?_
          refine lv_iload hx hb dX2_measure_77 (lv_at hl 6 rfl) ?_
          refine va_iald hx hb hK hP 6 0 rfl rfl (vp_in_nI hlt_i (by decide)) dX2_measure_79 ?_
          refine wtop_i (y := nI p9) ep9 ?_
          refine va_iald hx hb hK hP 4 0 rfl rfl (vp_in_nI (bT_i hbt0).1 (by decide)) dX2_measure_80 ?_
          refine lv_istore (lv' := [(8, .int (m2_31 (nI p9).toNatClampNeg)), (7, .int ((nI p9) / 9)), (6, .int ((nI p9) - (nI p9) / 9 * 9)), (0, .ref (a 3)), (1, .long x0), (3, .ref x1), (4, .ref (a 4)), (5, .int (nI i))]) hx hb dX2_measure_81 hl (by decide) rfl (fun ls hl => ?_)
          refine lv_lload_n hx hb dX2_measure_83 rfl (lv_at hl 4 rfl) ?_
          refine lv_aload_n hx hb dX2_measure_84 rfl (lv_at hl 5 rfl) ?_
          refine lv_iload hx hb dX2_measure_85 (lv_at hl 2 rfl) ?_
          refine lv_iload hx hb dX2_measure_87 (lv_at hl 1 rfl) ?_
          obtain ⟨k_39, hk_40⟩ : ∃ k : Nat, (CT cy a J (va_up I 99 m0_31) (va_up O 100 m1_31) (va_up (va_up R 4 m2_31) 6 m3_31) RO (LL ++ Y))[k]? = some (x1, .inr (2, [.int y1, .long al1, .long ac1])) := pixT hm1
          refine kWR_i (As := [.long x0, .ref x1, .int ((nI p9) - (nI p9) / 9 * 9), .int ((nI p9) / 9)]) (rest := []) ⟨hx, hb, hml, hown, hts⟩ (x_X2_isOpenFlat l D cy _ (CT cy a J (va_up I 99 m0_31) (va_up O 100 m1_31) (va_up (va_up R 4 m2_31) 6 m3_31) RO (LL ++ Y)) k_39 x1 y1 al1 ac1 hk_40 x0 ((nI p9) - (nI p9) / 9 * 9) ((nI p9) / 9)) (va_cwS 4 hts gX2_measure_X2_isOpenFlat rfl rfl rfl (by decide +kernel) ⟨Nat.le_of_ble_eq_true rfl, Nat.le_of_ble_eq_true rfl⟩) hK hN hP hD rfl hl.1 rfl (Nat.le_of_ble_eq_true rfl) dX2_measure_89 ⟨Nat.le_of_ble_eq_true rfl, Nat.le_of_ble_eq_true rfl⟩ ?_
          refine lv_if_eq (tgt := 118) hx hb dX2_measure_92 (by decide) (fun c_41 => ?_) (fun c_41 => ?_)
          · replace c_41 := bI_f c_41
            exact lp118 p9 (m2_31 (nI p9).toNatClampNeg) m0_31 m1_31 m2_31 m3_31 hT hq hQ hlt_i (bs_1n hbt0 c_41)  _ _ hP hD hS ls (lv_sub hl [3, 4, 5, 6, 7, 2, 1, 0] rfl)
          · replace c_41 := bI_t c_41
            refine lv_aload_n hx hb dX2_measure_95 rfl (lv_at hl 3 rfl) ?_
            refine lv_iload hx hb dX2_measure_96 (lv_at hl 2 rfl) ?_
            refine lv_iconst (v := 1) hx hb dX2_measure_98 (by decide) ?_
            refine lv_iadd hx hb dX2_measure_99 ?_
            refine lv_iload hx hb dX2_measure_100 (lv_at hl 1 rfl) ?_
            refine kS_i (As := [.int (((nI p9) - (nI p9) / 9 * 9) + 1), .int ((nI p9) / 9)]) (rest := [.ref (a 3)]) ⟨hx, hb, hml, hown, hts⟩ (c_X2_pointOf l (((nI p9) - (nI p9) / 9 * 9) + 1) ((nI p9) / 9)) (va_cwS 2 hts gX2_measure_X2_pointOf rfl rfl rfl (by decide +kernel) ⟨Nat.le_of_ble_eq_true rfl, Nat.le_of_ble_eq_true rfl⟩) rfl hl.1 rfl (Nat.le_of_ble_eq_true rfl) dX2_measure_102 ⟨Nat.le_of_ble_eq_true rfl, Nat.le_of_ble_eq_true rfl⟩ ?_
            refine lv_iload hx hb dX2_measure_105 (lv_at hl 0 rfl) ?_
            refine lv_iload hx hb dX2_measure_107 (lv_at hl 2 rfl) ?_
            refine lv_iload hx hb dX2_measure_109 (lv_at hl 1 rfl) ?_
            refine kS_i (As := [.int ((nI p9) - (nI p9) / 9 * 9), .int ((nI p9) / 9)]) (rest := [.int (m2_31 (nI p9).toNatClampNeg), .int (9 * ((nI p9) / 9) + (((nI p9) - (nI p9) / 9 * 9) + 1)), .ref (a 3)]) ⟨hx, hb, hml, hown, hts⟩ (x_X2_riseRight l ((nI p9) - (nI p9) / 9 * 9) ((nI p9) / 9)) (va_cwS 2 hts gX2_measure_X2_riseRight rfl rfl rfl (by decide +kernel) ⟨Nat.le_of_ble_eq_true rfl, Nat.le_of_ble_eq_true rfl⟩) rfl hl.1 rfl (Nat.le_of_ble_eq_true rfl) dX2_measure_111 ⟨Nat.le_of_ble_eq_true rfl, Nat.le_of_ble_eq_true rfl⟩ ?_
            refine lv_iadd hx hb dX2_measure_114 ?_
            refine kM_v (As := [.int (9 * ((nI p9) / 9) + (((nI p9) - (nI p9) / 9 * 9) + 1)), .int ((m2_31 (nI p9).toNatClampNeg) + (g_rise ((nI p9) - (nI p9) / 9 * 9) ((nI p9) / 9)))]) (rest := []) (q0 := 3) ⟨hx, hb, hml, hown, hts⟩ (x_X2_reach4 l D cy a _ J (va_up I 99 m0_31) (va_up O 100 m1_31) (va_up (va_up R 4 m2_31) 6 m3_31) RO LL Y (9 * ((nI p9) / 9) + (((nI p9) - (nI p9) / 9 * 9) + 1)) ((m2_31 (nI p9).toNatClampNeg) + (g_rise ((nI p9) - (nI p9) / 9 * 9) ((nI p9) / 9))) hT hq hQ  ) (cwV 2 hts gX2_measure_X2_reach rfl rfl rfl (by decide +kernel) ⟨Nat.le_of_ble_eq_true rfl, Nat.le_of_ble_eq_true rfl⟩) hK hN hP hD hS hA rfl rfl rfl hl.1 rfl (Nat.le_of_ble_eq_true rfl) dX2_measure_115 ⟨Nat.le_of_ble_eq_true rfl, Nat.le_of_ble_eq_true rfl⟩ (fun u H locs hw hP hD hS => ?_)
            obtain ⟨w_43, w_44, w_45, w_46, ⟨hp_47, hp_48, hp_49, hp_50⟩, rfl⟩ := hw
            have hP : va_P D vwCl (CT cy a J (va_up I 99 w_43) (va_up O 100 w_44) (va_up (va_up R 4 w_45) 6 w_46) RO (LL ++ Y)) H := hP
            have hD : va_D A (CT cy a J (va_up I 99 w_43) (va_up O 100 w_44) (va_up (va_up R 4 w_45) 6 w_46) RO (LL ++ Y)) := hD
            exact lp118 p9 (m2_31 (nI p9).toNatClampNeg) w_43 w_44 w_45 w_46 hp_47 hp_48 hp_49 hlt_i (bs_1y hZH hfp9 hbt0 c_41 hp_50)  _ _ hP hD hS ls (lv_sub hl [3, 4, 5, 6, 7, 2, 1, 0] rfl)
  have hP : va_P D vwCl (CT cy a J (va_up I 99 (I 99)) (va_up O 100 (O 100)) (va_up (va_up R 4 (R 4)) 6 (R 6)) RO (LL ++ Y)) s.heap := hP
  have hD : va_D A (CT cy a J (va_up I 99 (I 99)) (va_up O 100 (O 100)) (va_up (va_up R 4 (R 4)) 6 (R 6)) RO (LL ++ Y)) := hD
  refine lv_aload hx hb dX2_measure_0 (lv_at hl 3 rfl) ?_
  refine lv_sipush (v := 1000) hx hb dX2_measure_2 (by decide) ?_
  refine kW_v (As := [.ref (a 4), .int 1000]) (rest := []) ⟨hx, hb, hml, hown, hts⟩ (x_fillh4 l D cy a _ J (va_up I 99 (I 99)) (va_up O 100 (O 100)) (va_up (va_up R 4 (R 4)) 6 (R 6)) RO LL Y (1000 : Int32)   ) (va_cwS 2 hts gX2_measure_J7_fill_53178 rfl rfl rfl (by decide +kernel) ⟨Nat.le_of_ble_eq_true rfl, Nat.le_of_ble_eq_true rfl⟩) hK hN hP hD hS hA rfl hl.1 rfl (Nat.le_of_ble_eq_true rfl) dX2_measure_5 ⟨Nat.le_of_ble_eq_true rfl, Nat.le_of_ble_eq_true rfl⟩ (fun u H locs hw hP hD hS => ?_)
  obtain ⟨w_52, hp_53, rfl⟩ := hw
  have hP : va_P D vwCl (CT cy a J (va_up I 99 (I 99)) (va_up O 100 (O 100)) (va_up (va_up R 4 w_52) 6 (R 6)) RO (LL ++ Y)) H := hP
  have hD : va_D A (CT cy a J (va_up I 99 (I 99)) (va_up O 100 (O 100)) (va_up (va_up R 4 w_52) 6 (R 6)) RO (LL ++ Y)) := hD
  refine lv_aload_n hx hb dX2_measure_8 rfl (lv_at hl 0 rfl) ?_
  refine lv_aload hx hb dX2_measure_9 (lv_at hl 3 rfl) ?_
  refine va_put (D := D) (ci := 1) (v := .ref (a 4)) (ty := .array .int) (C := RX2) (T := TX2) (N := 5) hx hb hts hi2 tyX2 tyX2_ok nmX2 hown hK hP hD hS 3 rfl rfl 4 (by decide) hw2 (fun _ h9 => h9) rfl (by decide +kernel) rfl rfl (Nat.le_of_ble_eq_true rfl) dX2_measure_11 (fun H locs hP hD hS => ?_)
  have hP : va_P D vwCl (CT cy a J (va_up I 99 (I 99)) (va_up O 100 (some (a 4))) (va_up (va_up R 4 w_52) 6 (R 6)) RO (LL ++ Y)) H := hP
  have hD : va_D A (CT cy a J (va_up I 99 (I 99)) (va_up O 100 (some (a 4))) (va_up (va_up R 4 w_52) 6 (R 6)) RO (LL ++ Y)) := hD
  refine lv_aload_n hx hb dX2_measure_14 rfl (lv_at hl 0 rfl) ?_
  refine lv_iconst (v := 0) hx hb dX2_measure_15 (by decide) ?_
  refine va_put (D := D) (ci := 1) (v := .int 0) (ty := .int) (C := RX2) (T := TX2) (N := 5) hx hb hts hi2 tyX2 tyX2_ok nmX2 hown hK hP hD hS 3 rfl rfl 3 (by decide) hw0 (fun _ h9 => h9) rfl (by decide +kernel) rfl rfl (Nat.le_of_ble_eq_true rfl) dX2_measure_16 (fun H locs hP hD hS => ?_)
  have hP : va_P D vwCl (CT cy a J (va_up I 99 0) (va_up O 100 (some (a 4))) (va_up (va_up R 4 w_52) 6 (R 6)) RO (LL ++ Y)) H := hP
  have hD : va_D A (CT cy a J (va_up I 99 0) (va_up O 100 (some (a 4))) (va_up (va_up R 4 w_52) 6 (R 6)) RO (LL ++ Y)) := hD
  refine lv_aload_n hx hb dX2_measure_19 rfl (lv_at hl 0 rfl) ?_
  refine lv_lload_n hx hb dX2_measure_20 rfl (lv_at hl 1 rfl) ?_
  refine kSa_i (As := [.long x0]) (rest := [.ref (a 3)]) ⟨hx, hb, hml, hown, hts⟩ (x_X2_firstPoint l x0 (zF0 x0) hf0) (va_cwS 1 hts gX2_measure_X2_firstPoint rfl rfl rfl (by decide +kernel) ⟨Nat.le_of_ble_eq_true rfl, Nat.le_of_ble_eq_true rfl⟩) rfl hl.1 rfl (Nat.le_of_ble_eq_true rfl) dX2_measure_21 ⟨Nat.le_of_ble_eq_true rfl, Nat.le_of_ble_eq_true rfl⟩ (fun r_54 hr_55 => ?_)
  refine lv_iconst (v := 0) hx hb dX2_measure_24 (by decide) ?_
  refine kM_v (As := [.int r_54, .int 0]) (rest := []) (q0 := 3) ⟨hx, hb, hml, hown, hts⟩ (x_X2_reach4 l D cy a _ J (va_up I 99 0) (va_up O 100 (some (a 4))) (va_up (va_up R 4 w_52) 6 (R 6)) RO LL Y r_54 (0 : Int32) rfl z82 hQ  ) (cwV 2 hts gX2_measure_X2_reach rfl rfl rfl (by decide +kernel) ⟨Nat.le_of_ble_eq_true rfl, Nat.le_of_ble_eq_true rfl⟩) hK hN hP hD hS hA rfl rfl rfl hl.1 rfl (Nat.le_of_ble_eq_true rfl) dX2_measure_25 ⟨Nat.le_of_ble_eq_true rfl, Nat.le_of_ble_eq_true rfl⟩ (fun u H locs hw hP hD hS => ?_)
  obtain ⟨w_57, w_58, w_59, w_60, ⟨hp_61, hp_62, hp_63, hp_64⟩, rfl⟩ := hw
  have hP : va_P D vwCl (CT cy a J (va_up I 99 w_57) (va_up O 100 w_58) (va_up (va_up R 4 w_59) 6 w_60) RO (LL ++ Y)) H := hP
  have hD : va_D A (CT cy a J (va_up I 99 w_57) (va_up O 100 w_58) (va_up (va_up R 4 w_59) 6 w_60) RO (LL ++ Y)) := hD
  refine lv_iconst (v := 0) hx hb dX2_measure_28 (by decide) ?_
  refine lv_istore (lv' := [(5, .int 0), (0, .ref (a 3)), (1, .long x0), (3, .ref x1), (4, .ref (a 4))]) hx hb dX2_measure_29 hl (by decide) rfl (fun ls hl => ?_)
  exact lp31 _ 0 w_57 w_58 w_59 w_60 (Nat.zero_le _) hp_61 hp_62 hp_63 (bS_0 hf0 hr_55 hp_53 hp_64) (Nat.lt_succ_self _) _ _ hP hD hS ls (lv_sub hl [1, 2, 3, 4, 0] rfl)
set_option maxHeartbeats 4000000 in
set_option maxRecDepth 100000 in
theorem x_fillh5 (l : Launch) (D : va_G) (cy : Nat → ClassId) (a : Nat → Nat) (sz : Nat) (J : Nat → Int64) (I : Nat → Int32) (O : Nat → Option Nat) (R : Nat → Nat → Int32) (RO : Nat → Nat → Option Nat) (LL : va_W) (Y : va_W) (x1 : Int32) : Met l yJ7_fill_53178 wsJ7_fill_53178 ({ frames := 0, cells := 0, slots := 0, locals := 0 }) (va_Pc [.ref (a 5), .int x1] (PW D cy sz (CT cy a J I O R RO (LL ++ Y)))) (va_Qv (fun (u : TS) => ∃ (w0 : Nat → Int32), ((∀ p, p < 81 → w0 p = x1)) ∧ u = (J, I, O, (va_up R 5 w0), RO, LL, Y)) (BW D (va_A (CT cy a J I O R RO (LL ++ Y)) sz) (CTu cy a)) (va_A (CT cy a J I O R RO (LL ++ Y)) sz)) 0 0 (va_A (CT cy a J I O R RO (LL ++ Y)) sz) := by
  refine Met.ofW (cc := cJ7_fill_53178) (maxL := 4) (ret := none) (by decide) rfl ?_
  intro p e s m args below meth c s₁ B hml hv
  obtain ⟨rfl, rfl, hP, hK, hN, hD0⟩ := hv
  have hx := B.exec
  have hb := B.bytes
  have hr := B.returns
  have hts := atoms_spec (ws := wsJ7_fill_53178) B.pre
  have hown : s.vm.findClass RJ7 = some m.cls := findClass_of_methodNamed B.named
  have hlocks := B.notSynchronized
  have hD := hD0.self (sz := s.heap.size)
  generalize hAe : va_A (CT cy a J I O R RO (LL ++ Y)) s.heap.size = A at hD ⊢
  have hA : ∀ q : Nat, s.heap.size ≤ q → A q := fun q h => by rw [← hAe]; exact Or.inr h
  have hS : va_S A s.heap s.heap [] := va_S.rf
  have hl := lv_entry ([.ref (a 5), .int x1]) (n := 4) (Nat.le_of_ble_eq_true rfl)
  rw [lg_entry_eq]
  generalize (lg_sl ([.ref (a 5), .int x1]) ++ List.replicate (4 - (lg_sl ([.ref (a 5), .int x1])).length) Slot.unset).toArray = ls at hl ⊢
  have hl : lv_has ls 4 [(0, .ref (a 5)), (1, .int x1)] := hl
  have lp5 : ∀ (n5 : Nat), ∀ (i : Nat) (m0_5 : Nat → Int32), (i ≤ 81) → (∀ p, p < i → m0_5 p = x1) → (81 - i) < n5 → ∀ (H : Heap) (locs : List Loc), va_P D vwCl (CT cy a J I O (va_up R 5 m0_5) RO (LL ++ Y)) H → va_D A (CT cy a J I O (va_up R 5 m0_5) RO (LL ++ Y)) → va_S A s.heap H locs → ∀ (ls : Array Slot), lv_has ls 4 [(0, .ref (a 5)), (1, .int x1), (2, .int (nI i)), (3, .int 81)] → W p l e (headSpec wsJ7_fill_53178 ({ frames := 0, cells := 0, slots := 0, locals := 0 })).room s m ([.ref (a 5), .int x1] : List Value).toArray below meth c H locs 0 0 (MQ below (va_Qv (fun (u : TS) => ∃ (w0 : Nat → Int32), ((∀ p, p < 81 → w0 p = x1)) ∧ u = (J, I, O, (va_up R 5 w0), RO, LL, Y)) (BW D A (CTu cy a)) A) ([.ref (a 5), .int x1] : List Value).toArray s 0 0 A) (F0 m 5 ls []) := by
    intro n5
    induction n5 with
    | zero => intro i m0_5 hi hfp hn; exact absurd hn (Nat.not_lt_zero _)
    | succ n5 ih5 =>
      intro i m0_5 hi hfp hn5 H locs hP hD hS ls hl
      refine lv_iload_n hx hb dJ7_fill_53178_5 rfl (lv_at hl 2 rfl) ?_
      refine lv_iload_n hx hb dJ7_fill_53178_6 rfl (lv_at hl 3 rfl) ?_
      refine lv_icmp_ge (tgt := 20) hx hb dJ7_fill_53178_7 (by decide) (fun c_1 => ?_) (fun c_1 => ?_)
      · have hie := ctr_ge (N := 81) (by decide) hi c_1
        exact wret_v hx hb hr hlocks (J, I, O, (va_up R 5 m0_5), RO, LL, Y) ⟨m0_5, (by rw [hie] at hfp; exact hfp), rfl⟩ hP hD hS dJ7_fill_53178_20
      · have hlt_i := ctr_lt (N := 81) (by decide) hi c_1
        refine lv_aload_n hx hb dJ7_fill_53178_10 rfl (lv_at hl 0 rfl) ?_
        refine lv_iload_n hx hb dJ7_fill_53178_11 rfl (lv_at hl 2 rfl) ?_
        refine lv_iload_n hx hb dJ7_fill_53178_12 rfl (lv_at hl 1 rfl) ?_
        refine va_iast hx hb hK hP hD hS 5 0 rfl rfl (vp_in_nI hlt_i (by decide)) dJ7_fill_53178_13 (fun H locs hP hD hS => ?_)
        have hP : va_P D vwCl (CT cy a J I O (va_up R 5 (upd m0_5 (nI i).toNatClampNeg x1)) RO (LL ++ Y)) H := hP
        have hD : va_D A (CT cy a J I O (va_up R 5 (upd m0_5 (nI i).toNatClampNeg x1)) RO (LL ++ Y)) := hD
        refine lv_iinc (v := nI (i + 1)) (lv' := [(2, .int (nI (i + 1))), (0, .ref (a 5)), (1, .int x1), (3, .int 81)]) hx hb dJ7_fill_53178_14 hl (k := 2) rfl (nI_1 _) (by decide) rfl (fun ls hl => ?_)
        refine lv_goto (tgt := 5) hx hb dJ7_fill_53178_17 (by decide) ?_
        exact ih5 (i + 1) (upd m0_5 (nI i).toNatClampNeg x1) hlt_i (fill_81 hlt_i hfp) (lt_dec hlt_i hn5) _ _ hP hD hS ls (lv_sub hl [1, 2, 0, 3] rfl)
  have hP : va_P D vwCl (CT cy a J I O (va_up R 5 (R 5)) RO (LL ++ Y)) s.heap := hP
  have hD : va_D A (CT cy a J I O (va_up R 5 (R 5)) RO (LL ++ Y)) := hD
  refine lv_iconst (v := 0) hx hb dJ7_fill_53178_0 (by decide) ?_
  refine lv_istore_n (lv' := [(2, .int 0), (0, .ref (a 5)), (1, .int x1)]) hx hb dJ7_fill_53178_1 rfl hl (by decide) rfl (fun ls hl => ?_)
  refine lv_aload_n hx hb dJ7_fill_53178_2 rfl (lv_at hl 1 rfl) ?_
  refine va_alen hx hb hK hP 5 0 rfl rfl (v := 81) rfl dJ7_fill_53178_3 ?_
  refine lv_istore_n (lv' := [(3, .int 81), (2, .int 0), (0, .ref (a 5)), (1, .int x1)]) hx hb dJ7_fill_53178_4 rfl hl (by decide) rfl (fun ls hl => ?_)
  exact lp5 _ 0 (R 5) (by omega) (fun p h => absurd h (Nat.not_lt_zero _)) (Nat.lt_succ_self _) _ _ hP hD hS ls (lv_sub hl [2, 3, 1, 0] rfl)
set_option maxHeartbeats 4000000 in
set_option maxRecDepth 100000 in
theorem x_X2_reach5 (l : Launch) (D : va_G) (cy : Nat → ClassId) (a : Nat → Nat) (sz : Nat) (J : Nat → Int64) (I : Nat → Int32) (O : Nat → Option Nat) (R : Nat → Nat → Int32) (RO : Nat → Nat → Option Nat) (LL : va_W) (Y : va_W) (x0 : Int32) (x1 : Int32) (hT : O 100 = some (a 5)) (hq : vp_in (I 99) 82) (hQ : ∀ i, i < 81 → vp_in (R 6 i) 81) : Met l yX2_reach wsX2_reach ({ frames := 0, cells := 0, slots := 0, locals := 0 }) (va_Pc [.ref (a 3), .int x0, .int x1] (PW D cy sz (CT cy a J I O R RO (LL ++ Y)))) (va_Qv (fun (u : TS) => ∃ (w0 : Int32), ∃ (w1 : Option Nat), ∃ (w2 : Nat → Int32), ∃ (w3 : Nat → Int32), ((w1 = some (a 5)) ∧ (vp_in w0 82) ∧ (∀ i, i < 81 → vp_in (w3 i) 81) ∧ (rcR (R 5) (R 6) (I 99) w2 w3 w0 x0 x1)) ∧ u = (J, (va_up I 99 w0), (va_up O 100 w1), (va_up (va_up R 5 w2) 6 w3), RO, LL, Y)) (BW D (va_A (CT cy a J I O R RO (LL ++ Y)) sz) (CTu cy a)) (va_A (CT cy a J I O R RO (LL ++ Y)) sz)) 0 0 (va_A (CT cy a J I O R RO (LL ++ Y)) sz) := by
  refine Met.ofW (cc := cX2_reach) (maxL := 3) (ret := none) (by decide) rfl ?_
  intro p e s m args below meth c s₁ B hml hv
  obtain ⟨rfl, rfl, hP, hK, hN, hD0⟩ := hv
  have hx := B.exec
  have hb := B.bytes
  have hr := B.returns
  have hts := atoms_spec (ws := wsX2_reach) B.pre
  have hown : s.vm.findClass RX2 = some m.cls := findClass_of_methodNamed B.named
  have hlocks := B.notSynchronized
  have hw0 := hts (.fieldLink RX2 19 "ParquetLayer$Heights" "target" "[I") (by decide +kernel)
  have hw1 := hts (.fieldLink RX2 38 "ParquetLayer$Heights" "queued" "I") (by decide +kernel)
  have hw2 := hts (.fieldLink RX2 16 "ParquetLayer$Heights" "queue" "[I") (by decide +kernel)
  have hi2 := ihX2_reach_2
  have hD := hD0.self (sz := s.heap.size)
  generalize hAe : va_A (CT cy a J I O R RO (LL ++ Y)) s.heap.size = A at hD ⊢
  have hA : ∀ q : Nat, s.heap.size ≤ q → A q := fun q h => by rw [← hAe]; exact Or.inr h
  have hS : va_S A s.heap s.heap [] := va_S.rf
  have hl := lv_entry ([.ref (a 3), .int x0, .int x1]) (n := 3) (Nat.le_of_ble_eq_true rfl)
  rw [lg_entry_eq]
  generalize (lg_sl ([.ref (a 3), .int x0, .int x1]) ++ List.replicate (3 - (lg_sl ([.ref (a 3), .int x0, .int x1])).length) Slot.unset).toArray = ls at hl ⊢
  have hl : lv_has ls 3 [(0, .ref (a 3)), (1, .int x0), (2, .int x1)] := hl
  have hP : va_P D vwCl (CT cy a J (va_up I 99 (I 99)) (va_up O 100 (O 100)) (va_up (va_up R 5 (R 5)) 6 (R 6)) RO (LL ++ Y)) s.heap := hP
  have hD : va_D A (CT cy a J (va_up I 99 (I 99)) (va_up O 100 (O 100)) (va_up (va_up R 5 (R 5)) 6 (R 6)) RO (LL ++ Y)) := hD
  rw [hT] at hP hD
  refine lv_iload_n hx hb dX2_reach_0 rfl (lv_at hl 1 rfl) ?_
  refine lv_if_lt (tgt := 58) hx hb dX2_reach_1 (by decide) (fun c_1 => ?_) (fun c_1 => ?_)
  · exact wret_v hx hb hr hlocks (J, (va_up I 99 (I 99)), (va_up O 100 (some (a 5))), (va_up (va_up R 5 (R 5)) 6 (R 6)), RO, LL, Y) ⟨(I 99), (some (a 5)), (R 5), (R 6), ⟨rfl, hq, hQ, (Or.inr ⟨(Or.inl c_1), rfl, rfl, rfl⟩)⟩, rfl⟩ hP hD hS dX2_reach_58
  · refine lv_iload_n hx hb dX2_reach_4 rfl (lv_at hl 1 rfl) ?_
    refine lv_bipush (v := 81) hx hb dX2_reach_5 (by decide) ?_
    refine lv_icmp_ge (tgt := 58) hx hb dX2_reach_7 (by decide) (fun c_2 => ?_) (fun c_2 => ?_)
    · exact wret_v hx hb hr hlocks (J, (va_up I 99 (I 99)), (va_up O 100 (some (a 5))), (va_up (va_up R 5 (R 5)) 6 (R 6)), RO, LL, Y) ⟨(I 99), (some (a 5)), (R 5), (R 6), ⟨rfl, hq, hQ, (Or.inr ⟨(Or.inr (Or.inl c_2)), rfl, rfl, rfl⟩)⟩, rfl⟩ hP hD hS dX2_reach_58
    · refine lv_aload_n hx hb dX2_reach_10 rfl (lv_at hl 0 rfl) ?_
      refine va_get (D := D) (ci := 1) (v := .ref (a 5)) (C := RX2) (T := TX2) (N := 5) hx hb hts hi2 hown hK hP 3 rfl rfl 4 (by decide) hw0 (fun _ h9 => h9) rfl dX2_reach_11 ?_
      refine lv_iload_n hx hb dX2_reach_14 rfl (lv_at hl 1 rfl) ?_
      refine va_iald hx hb hK hP 5 0 rfl rfl (in81f c_1 c_2) dX2_reach_15 ?_
      refine lv_sipush (v := 1000) hx hb dX2_reach_16 (by decide) ?_
      refine lv_icmp_ne (tgt := 58) hx hb dX2_reach_19 (by decide) (fun c_3 => ?_) (fun c_3 => ?_)
      · exact wret_v hx hb hr hlocks (J, (va_up I 99 (I 99)), (va_up O 100 (some (a 5))), (va_up (va_up R 5 (R 5)) 6 (R 6)), RO, LL, Y) ⟨(I 99), (some (a 5)), (R 5), (R 6), ⟨rfl, hq, hQ, (Or.inr ⟨(Or.inr (Or.inr (Or.inl c_3))), rfl, rfl, rfl⟩)⟩, rfl⟩ hP hD hS dX2_reach_58
      · refine lv_aload_n hx hb dX2_reach_22 rfl (lv_at hl 0 rfl) ?_
        refine va_get (D := D) (ci := 1) (v := .int (I 99)) (C := RX2) (T := TX2) (N := 5) hx hb hts hi2 hown hK hP 3 rfl rfl 3 (by decide) hw1 (fun _ h9 => h9) rfl dX2_reach_23 ?_
        refine lv_bipush (v := 81) hx hb dX2_reach_26 (by decide) ?_
        refine lv_icmp_ge (tgt := 58) hx hb dX2_reach_28 (by decide) (fun c_4 => ?_) (fun c_4 => ?_)
        · exact wret_v hx hb hr hlocks (J, (va_up I 99 (I 99)), (va_up O 100 (some (a 5))), (va_up (va_up R 5 (R 5)) 6 (R 6)), RO, LL, Y) ⟨(I 99), (some (a 5)), (R 5), (R 6), ⟨rfl, hq, hQ, (Or.inr ⟨(Or.inr (Or.inr (Or.inr c_4))), rfl, rfl, rfl⟩)⟩, rfl⟩ hP hD hS dX2_reach_58
        · refine lv_aload_n hx hb dX2_reach_31 rfl (lv_at hl 0 rfl) ?_
          refine va_get (D := D) (ci := 1) (v := .ref (a 5)) (C := RX2) (T := TX2) (N := 5) hx hb hts hi2 hown hK hP 3 rfl rfl 4 (by decide) hw0 (fun _ h9 => h9) rfl dX2_reach_32 ?_
          refine lv_iload_n hx hb dX2_reach_35 rfl (lv_at hl 1 rfl) ?_
          refine lv_iload_n hx hb dX2_reach_36 rfl (lv_at hl 2 rfl) ?_
          refine va_iast hx hb hK hP hD hS 5 0 rfl rfl (in81f c_1 c_2) dX2_reach_37 (fun H locs hP hD hS => ?_)
          have hP : va_P D vwCl (CT cy a J (va_up I 99 (I 99)) (va_up O 100 (some (a 5))) (va_up (va_up R 5 (upd (R 5) x0.toNatClampNeg x1)) 6 (R 6)) RO (LL ++ Y)) H := hP
          have hD : va_D A (CT cy a J (va_up I 99 (I 99)) (va_up O 100 (some (a 5))) (va_up (va_up R 5 (upd (R 5) x0.toNatClampNeg x1)) 6 (R 6)) RO (LL ++ Y)) := hD
          refine lv_aload_n hx hb dX2_reach_38 rfl (lv_at hl 0 rfl) ?_
          refine va_get (D := D) (ci := 1) (v := .ref (a 6)) (C := RX2) (T := TX2) (N := 5) hx hb hts hi2 hown hK hP 3 rfl rfl 2 (by decide) hw2 (fun _ h9 => h9) rfl dX2_reach_39 ?_
          refine lv_aload_n hx hb dX2_reach_42 rfl (lv_at hl 0 rfl) ?_
          refine va_get (D := D) (ci := 1) (v := .int (I 99)) (C := RX2) (T := TX2) (N := 5) hx hb hts hi2 hown hK hP 3 rfl rfl 3 (by decide) hw1 (fun _ h9 => h9) rfl dX2_reach_43 ?_
          refine lv_iload_n hx hb dX2_reach_46 rfl (lv_at hl 1 rfl) ?_
          refine va_iast hx hb hK hP hD hS 6 0 rfl rfl (q81 hq c_4) dX2_reach_47 (fun H locs hP hD hS => ?_)
          have hP : va_P D vwCl (CT cy a J (va_up I 99 (I 99)) (va_up O 100 (some (a 5))) (va_up (va_up R 5 (upd (R 5) x0.toNatClampNeg x1)) 6 (upd (R 6) (I 99).toNatClampNeg x0)) RO (LL ++ Y)) H := hP
          have hD : va_D A (CT cy a J (va_up I 99 (I 99)) (va_up O 100 (some (a 5))) (va_up (va_up R 5 (upd (R 5) x0.toNatClampNeg x1)) 6 (upd (R 6) (I 99).toNatClampNeg x0)) RO (LL ++ Y)) := hD
          refine lv_aload_n hx hb dX2_reach_48 rfl (lv_at hl 0 rfl) ?_
          refine lv_dup hx hb dX2_reach_49 rfl ?_
          refine va_get (D := D) (ci := 1) (v := .int (I 99)) (C := RX2) (T := TX2) (N := 5) hx hb hts hi2 hown hK hP 3 rfl rfl 3 (by decide) hw1 (fun _ h9 => h9) rfl dX2_reach_50 ?_
          refine lv_iconst (v := 1) hx hb dX2_reach_53 (by decide) ?_
          refine lv_iadd hx hb dX2_reach_54 ?_
          refine va_put (D := D) (ci := 1) (v := .int ((I 99) + 1)) (ty := .int) (C := RX2) (T := TX2) (N := 5) hx hb hts hi2 tyX2 tyX2_ok nmX2 hown hK hP hD hS 3 rfl rfl 3 (by decide) hw1 (fun _ h9 => h9) rfl (by decide +kernel) rfl rfl (Nat.le_of_ble_eq_true rfl) dX2_reach_55 (fun H locs hP hD hS => ?_)
          have hP : va_P D vwCl (CT cy a J (va_up I 99 ((I 99) + 1)) (va_up O 100 (some (a 5))) (va_up (va_up R 5 (upd (R 5) x0.toNatClampNeg x1)) 6 (upd (R 6) (I 99).toNatClampNeg x0)) RO (LL ++ Y)) H := hP
          have hD : va_D A (CT cy a J (va_up I 99 ((I 99) + 1)) (va_up O 100 (some (a 5))) (va_up (va_up R 5 (upd (R 5) x0.toNatClampNeg x1)) 6 (upd (R 6) (I 99).toNatClampNeg x0)) RO (LL ++ Y)) := hD
          exact wret_v hx hb hr hlocks (J, (va_up I 99 ((I 99) + 1)), (va_up O 100 (some (a 5))), (va_up (va_up R 5 (upd (R 5) x0.toNatClampNeg x1)) 6 (upd (R 6) (I 99).toNatClampNeg x0)), RO, LL, Y) ⟨((I 99) + 1), (some (a 5)), (upd (R 5) x0.toNatClampNeg x1), (upd (R 6) (I 99).toNatClampNeg x0), ⟨rfl, (q82 (q81 hq c_4)), (all81 hQ (in81f c_1 c_2)), (Or.inl ⟨in81f c_1 c_2, c_3, q81 hq c_4, rfl, rfl, rfl⟩)⟩, rfl⟩ hP hD hS dX2_reach_58
set_option maxHeartbeats 4000000 in
set_option maxRecDepth 100000 in
theorem x_X2_measure5 (l : Launch) (D : va_G) (cy : Nat → ClassId) (a : Nat → Nat) (sz : Nat) (J : Nat → Int64) (I : Nat → Int32) (O : Nat → Option Nat) (R : Nat → Nat → Int32) (RO : Nat → Nat → Option Nat) (LL : va_W) (Y : va_W) (x0 : Int64) (x1 : Nat) (y1 : Int32) (al1 ac1 : Int64) (hm1 : laC x1 y1 al1 ac1 ∈ Y) (hQ : ∀ i, i < 81 → vp_in (R 6 i) 81) (hly : LY (bfx x0) (bfx al1) (bfx ac1)) (hwo : cFr (mOut x0) A10 100 = 1 ∧ aPc x0 = 1) : Met l yX2_measure wsX2_measure ({ frames := 3, cells := 0, slots := 0, locals := 69 }) (va_Pc [.ref (a 3), .long x0, .ref x1, .ref (a 5)] (PW D cy sz (CT cy a J I O R RO (LL ++ Y)))) (va_Qv (fun (u : TS) => ∃ (w0 : Int32), ∃ (w1 : Option Nat), ∃ (w2 : Nat → Int32), ∃ (w3 : Nat → Int32), ((∀ i, i < 81 → vp_in (w3 i) 81) ∧ (hVal x0 al1 ac1 (zF0 x0) 1000 w2) ∧ (∀ r, r < 81 → hpt (bfx x0) r = true → -100 ≤ (w2 r).toInt ∧ (w2 r).toInt ≤ 100)) ∧ u = (J, (va_up I 99 w0), (va_up O 100 w1), (va_up (va_up R 5 w2) 6 w3), RO, LL, Y)) (BW D (va_A (CT cy a J I O R RO (LL ++ Y)) sz) (CTu cy a)) (va_A (CT cy a J I O R RO (LL ++ Y)) sz)) 0 0 (va_A (CT cy a J I O R RO (LL ++ Y)) sz) := by
  refine Met.ofW (cc := cX2_measure) (maxL := 9) (ret := none) (by decide) rfl ?_
  intro p e s m args below meth c s₁ B hml hv
  obtain ⟨rfl, rfl, hP, hK, hN, hD0⟩ := hv
  have hx := B.exec
  have hb := B.bytes
  have hr := B.returns
  have hts := atoms_spec (ws := wsX2_measure) B.pre
  have hown : s.vm.findClass RX2 = some m.cls := findClass_of_methodNamed B.named
  have hlocks := B.notSynchronized
  have hw0 := hts (.fieldLink RX2 38 "ParquetLayer$Heights" "queued" "I") (by decide +kernel)
  have hw1 := hts (.fieldLink RX2 16 "ParquetLayer$Heights" "queue" "[I") (by decide +kernel)
  have hw2 := hts (.fieldLink RX2 19 "ParquetLayer$Heights" "target" "[I") (by decide +kernel)
  have hi2 := ihX2_measure_2
  have hD := hD0.self (sz := s.heap.size)
  generalize hAe : va_A (CT cy a J I O R RO (LL ++ Y)) s.heap.size = A at hD ⊢
  have hA : ∀ q : Nat, s.heap.size ≤ q → A q := fun q h => by rw [← hAe]; exact Or.inr h
  have hS : va_S A s.heap s.heap [] := va_S.rf
  have hl := lv_entry ([.ref (a 3), .long x0, .ref x1, .ref (a 5)]) (n := 9) (Nat.le_of_ble_eq_true rfl)
  rw [lg_entry_eq]
  generalize (lg_sl ([.ref (a 3), .long x0, .ref x1, .ref (a 5)]) ++ List.replicate (9 - (lg_sl ([.ref (a 3), .long x0, .ref x1, .ref (a 5)])).length) Slot.unset).toArray = ls at hl ⊢
  have hl : lv_has ls 9 [(0, .ref (a 3)), (1, .long x0), (3, .ref x1), (4, .ref (a 5))] := hl
  have hZH := zH_t hwo.1 hly
  have hf0 := zF0_t hwo.2
  have hfp9 : hTL (zF0 x0) < 81 := Nat.lt_trans (hTL_lt hf0.1) (by decide)
  have lp31 : ∀ (n31 : Nat), ∀ (i : Nat) (m0_31 : Int32) (m1_31 : Option Nat) (m2_31 : Nat → Int32) (m3_31 : Nat → Int32), (i ≤ 81) → (m1_31 = some (a 5)) → (vp_in m0_31 82) → (∀ i, i < 81 → vp_in (m3_31 i) 81) → (bS x0 al1 ac1 (hTL (zF0 x0)) m2_31 m3_31 m0_31 i) → (81 - i) < n31 → ∀ (H : Heap) (locs : List Loc), va_P D vwCl (CT cy a J (va_up I 99 m0_31) (va_up O 100 m1_31) (va_up (va_up R 5 m2_31) 6 m3_31) RO (LL ++ Y)) H → va_D A (CT cy a J (va_up I 99 m0_31) (va_up O 100 m1_31) (va_up (va_up R 5 m2_31) 6 m3_31) RO (LL ++ Y)) → va_S A s.heap H locs → ∀ (ls : Array Slot), lv_has ls 9 [(0, .ref (a 3)), (1, .long x0), (3, .ref x1), (4, .ref (a 5)), (5, .int (nI i))] → W p l e (headSpec wsX2_measure ({ frames := 3, cells := 0, slots := 0, locals := 69 })).room s m ([.ref (a 3), .long x0, .ref x1, .ref (a 5)] : List Value).toArray below meth c H locs 0 0 (MQ below (va_Qv (fun (u : TS) => ∃ (w0 : Int32), ∃ (w1 : Option Nat), ∃ (w2 : Nat → Int32), ∃ (w3 : Nat → Int32), ((∀ i, i < 81 → vp_in (w3 i) 81) ∧ (hVal x0 al1 ac1 (zF0 x0) 1000 w2) ∧ (∀ r, r < 81 → hpt (bfx x0) r = true → -100 ≤ (w2 r).toInt ∧ (w2 r).toInt ≤ 100)) ∧ u = (J, (va_up I 99 w0), (va_up O 100 w1), (va_up (va_up R 5 w2) 6 w3), RO, LL, Y)) (BW D A (CTu cy a)) A) ([.ref (a 3), .long x0, .ref x1, .ref (a 5)] : List Value).toArray s 0 0 A) (F0 m 31 ls []) := by
    intro n31
    induction n31 with
    | zero => intro i m0_31 m1_31 m2_31 m3_31 hi hT hq hQ hbs hn; exact absurd hn (Nat.not_lt_zero _)
    | succ n31 ih31 =>
      intro i m0_31 m1_31 m2_31 m3_31 hi hT hq hQ hbs hn31 H locs hP hD hS ls hl
      have lp118 : ∀ (p9 : Nat) (v8_118 : Int32) (m0_118 : Int32) (m1_118 : Option Nat) (m2_118 : Nat → Int32) (m3_118 : Nat → Int32), (m1_118 = some (a 5)) → (vp_in m0_118 82) → (∀ i, i < 81 → vp_in (m3_118 i) 81) → (i < 81) → (bT x0 al1 ac1 (hTL (zF0 x0)) 1 m2_118 m3_118 m0_118 i p9 v8_118) → ∀ (H : Heap) (locs : List Loc), va_P D vwCl (CT cy a J (va_up I 99 m0_118) (va_up O 100 m1_118) (va_up (va_up R 5 m2_118) 6 m3_118) RO (LL ++ Y)) H → va_D A (CT cy a J (va_up I 99 m0_118) (va_up O 100 m1_118) (va_up (va_up R 5 m2_118) 6 m3_118) RO (LL ++ Y)) → va_S A s.heap H locs → ∀ (ls : Array Slot), lv_has ls 9 [(0, .ref (a 3)), (1, .long x0), (3, .ref x1), (4, .ref (a 5)), (5, .int (nI i)), (6, .int (nI p9 - nI p9 / 9 * 9)), (7, .int (nI p9 / 9)), (8, .int v8_118)] → W p l e (headSpec wsX2_measure ({ frames := 3, cells := 0, slots := 0, locals := 69 })).room s m ([.ref (a 3), .long x0, .ref x1, .ref (a 5)] : List Value).toArray below meth c H locs 0 0 (MQ below (va_Qv (fun (u : TS) => ∃ (w0 : Int32), ∃ (w1 : Option Nat), ∃ (w2 : Nat → Int32), ∃ (w3 : Nat → Int32), ((∀ i, i < 81 → vp_in (w3 i) 81) ∧ (hVal x0 al1 ac1 (zF0 x0) 1000 w2) ∧ (∀ r, r < 81 → hpt (bfx x0) r = true → -100 ≤ (w2 r).toInt ∧ (w2 r).toInt ≤ 100)) ∧ u = (J, (va_up I 99 w0), (va_up O 100 w1), (va_up (va_up R 5 w2) 6 w3), RO, LL, Y)) (BW D A (CTu cy a)) A) ([.ref (a 3), .long x0, .ref x1, .ref (a 5)] : List Value).toArray s 0 0 A) (F0 m 118 ls []) := by
        intro p9 v8_118 m0_118 m1_118 m2_118 m3_118 hT hq hQ hlt_i hbt1 H locs hP hD hS ls hl
        have lp157 : ∀ (p9 : Nat) (v8_157 : Int32) (m0_157 : Int32) (m1_157 : Option Nat) (m2_157 : Nat → Int32) (m3_157 : Nat → Int32), (m1_157 = some (a 5)) → (vp_in m0_157 82) → (∀ i, i < 81 → vp_in (m3_157 i) 81) → (i < 81) → (bT x0 al1 ac1 (hTL (zF0 x0)) 2 m2_157 m3_157 m0_157 i p9 v8_157) → ∀ (H : Heap) (locs : List Loc), va_P D vwCl (CT cy a J (va_up I 99 m0_157) (va_up O 100 m1_157) (va_up (va_up R 5 m2_157) 6 m3_157) RO (LL ++ Y)) H → va_D A (CT cy a J (va_up I 99 m0_157) (va_up O 100 m1_157) (va_up (va_up R 5 m2_157) 6 m3_157) RO (LL ++ Y)) → va_S A s.heap H locs → ∀ (ls : Array Slot), lv_has ls 9 [(0, .ref (a 3)), (1, .long x0), (3, .ref x1), (4, .ref (a 5)), (5, .int (nI i)), (6, .int (nI p9 - nI p9 / 9 * 9)), (7, .int (nI p9 / 9)), (8, .int v8_157)] → W p l e (headSpec wsX2_measure ({ frames := 3, cells := 0, slots := 0, locals := 69 })).room s m ([.ref (a 3), .long x0, .ref x1, .ref (a 5)] : List Value).toArray below meth c H locs 0 0 (MQ below (va_Qv (fun (u : TS) => ∃ (w0 : Int32), ∃ (w1 : Option Nat), ∃ (w2 : Nat → Int32), ∃ (w3 : Nat → Int32), ((∀ i, i < 81 → vp_in (w3 i) 81) ∧ (hVal x0 al1 ac1 (zF0 x0) 1000 w2) ∧ (∀ r, r < 81 → hpt (bfx x0) r = true → -100 ≤ (w2 r).toInt ∧ (w2 r).toInt ≤ 100)) ∧ u = (J, (va_up I 99 w0), (va_up O 100 w1), (va_up (va_up R 5 w2) 6 w3), RO, LL, Y)) (BW D A (CTu cy a)) A) ([.ref (a 3), .long x0, .ref x1, .ref (a 5)] : List Value).toArray s 0 0 A) (F0 m 157 ls []) := by
          intro p9 v8_157 m0_157 m1_157 m2_157 m3_157 hT hq hQ hlt_i hbt2 H locs hP hD hS ls hl
          have lp192 : ∀ (p9 : Nat) (v8_192 : Int32) (m0_192 : Int32) (m1_192 : Option Nat) (m2_192 : Nat → Int32) (m3_192 : Nat → Int32), (m1_192 = some (a 5)) → (vp_in m0_192 82) → (∀ i, i < 81 → vp_in (m3_192 i) 81) → (i < 81) → (bT x0 al1 ac1 (hTL (zF0 x0)) 3 m2_192 m3_192 m0_192 i p9 v8_192) → ∀ (H : Heap) (locs : List Loc), va_P D vwCl (CT cy a J (va_up I 99 m0_192) (va_up O 100 m1_192) (va_up (va_up R 5 m2_192) 6 m3_192) RO (LL ++ Y)) H → va_D A (CT cy a J (va_up I 99 m0_192) (va_up O 100 m1_192) (va_up (va_up R 5 m2_192) 6 m3_192) RO (LL ++ Y)) → va_S A s.heap H locs → ∀ (ls : Array Slot), lv_has ls 9 [(0, .ref (a 3)), (1, .long x0), (3, .ref x1), (4, .ref (a 5)), (5, .int (nI i)), (6, .int (nI p9 - nI p9 / 9 * 9)), (7, .int (nI p9 / 9)), (8, .int v8_192)] → W p l e (headSpec wsX2_measure ({ frames := 3, cells := 0, slots := 0, locals := 69 })).room s m ([.ref (a 3), .long x0, .ref x1, .ref (a 5)] : List Value).toArray below meth c H locs 0 0 (MQ below (va_Qv (fun (u : TS) => ∃ (w0 : Int32), ∃ (w1 : Option Nat), ∃ (w2 : Nat → Int32), ∃ (w3 : Nat → Int32), ((∀ i, i < 81 → vp_in (w3 i) 81) ∧ (hVal x0 al1 ac1 (zF0 x0) 1000 w2) ∧ (∀ r, r < 81 → hpt (bfx x0) r = true → -100 ≤ (w2 r).toInt ∧ (w2 r).toInt ≤ 100)) ∧ u = (J, (va_up I 99 w0), (va_up O 100 w1), (va_up (va_up R 5 w2) 6 w3), RO, LL, Y)) (BW D A (CTu cy a)) A) ([.ref (a 3), .long x0, .ref x1, .ref (a 5)] : List Value).toArray s 0 0 A) (F0 m 192 ls []) := by
            intro p9 v8_192 m0_192 m1_192 m2_192 m3_192 hT hq hQ hlt_i hbt3 H locs hP hD hS ls hl
            refine lv_lload_n hx hb dX2_measure_192 rfl (lv_at hl 1 rfl) ?_
            refine lv_aload_n hx hb dX2_measure_193 rfl (lv_at hl 2 rfl) ?_
            refine lv_iload hx hb dX2_measure_194 (lv_at hl 5 rfl) ?_
            refine lv_iload hx hb dX2_measure_196 (lv_at hl 6 rfl) ?_
            refine lv_iconst (v := 1) hx hb dX2_measure_198 (by decide) ?_
            refine lv_isub hx hb dX2_measure_199 ?_
            obtain ⟨k_1, hk_2⟩ : ∃ k : Nat, (CT cy a J (va_up I 99 m0_192) (va_up O 100 m1_192) (va_up (va_up R 5 m2_192) 6 m3_192) RO (LL ++ Y))[k]? = some (x1, .inr (2, [.int y1, .long al1, .long ac1])) := pixT hm1
            refine kWR_i (As := [.long x0, .ref x1, .int (nI p9 - nI p9 / 9 * 9), .int ((nI p9 / 9) - 1)]) (rest := []) ⟨hx, hb, hml, hown, hts⟩ (x_X2_isOpenSteep l D cy _ (CT cy a J (va_up I 99 m0_192) (va_up O 100 m1_192) (va_up (va_up R 5 m2_192) 6 m3_192) RO (LL ++ Y)) k_1 x1 y1 al1 ac1 hk_2 x0 (nI p9 - nI p9 / 9 * 9) ((nI p9 / 9) - 1)) (va_cwS 4 hts gX2_measure_X2_isOpenSteep rfl rfl rfl (by decide +kernel) ⟨Nat.le_of_ble_eq_true rfl, Nat.le_of_ble_eq_true rfl⟩) hK hN hP hD rfl hl.1 rfl (Nat.le_of_ble_eq_true rfl) dX2_measure_200 ⟨Nat.le_of_ble_eq_true rfl, Nat.le_of_ble_eq_true rfl⟩ ?_
            refine lv_if_eq (tgt := 231) hx hb dX2_measure_203 (by decide) (fun c_3 => ?_) (fun c_3 => ?_)
            · replace c_3 := bI_f c_3
              refine lv_iinc (v := nI (i + 1)) (lv' := [(5, .int (nI (i + 1))), (0, .ref (a 3)), (1, .long x0), (3, .ref x1), (4, .ref (a 5)), (6, .int (nI p9 - nI p9 / 9 * 9)), (7, .int (nI p9 / 9)), (8, .int v8_192)]) hx hb dX2_measure_231 hl (k := 4) rfl (nI_1 _) (by decide) rfl (fun ls hl => ?_)
              refine lv_goto (tgt := 31) hx hb dX2_measure_234 (by decide) ?_
              exact ih31 (i + 1) m0_192 m1_192 m2_192 m3_192 hlt_i hT hq hQ (bs_4n hbt3 c_3) (lt_dec hlt_i hn31) _ _ hP hD hS ls (lv_sub hl [1, 2, 3, 4, 0] rfl)
            · replace c_3 := bI_t c_3
              refine lv_aload_n hx hb dX2_measure_206 rfl (lv_at hl 0 rfl) ?_
              refine lv_iload hx hb dX2_measure_207 (lv_at hl 5 rfl) ?_
              refine lv_iload hx hb dX2_measure_209 (lv_at hl 6 rfl) ?_
              refine lv_iconst (v := 1) hx hb dX2_measure_211 (by decide) ?_
              refine lv_isub hx hb dX2_measure_212 ?_
              refine kS_i (As := [.int (nI p9 - nI p9 / 9 * 9), .int ((nI p9 / 9) - 1)]) (rest := [.ref (a 3)]) ⟨hx, hb, hml, hown, hts⟩ (c_X2_pointOf l (nI p9 - nI p9 / 9 * 9) ((nI p9 / 9) - 1)) (va_cwS 2 hts gX2_measure_X2_pointOf rfl rfl rfl (by decide +kernel) ⟨Nat.le_of_ble_eq_true rfl, Nat.le_of_ble_eq_true rfl⟩) rfl hl.1 rfl (Nat.le_of_ble_eq_true rfl) dX2_measure_213 ⟨Nat.le_of_ble_eq_true rfl, Nat.le_of_ble_eq_true rfl⟩ ?_
              refine lv_iload hx hb dX2_measure_216 (lv_at hl 7 rfl) ?_
              refine lv_iload hx hb dX2_measure_218 (lv_at hl 5 rfl) ?_
              refine lv_iload hx hb dX2_measure_220 (lv_at hl 6 rfl) ?_
              refine lv_iconst (v := 1) hx hb dX2_measure_222 (by decide) ?_
              refine lv_isub hx hb dX2_measure_223 ?_
              refine kS_i (As := [.int (nI p9 - nI p9 / 9 * 9), .int ((nI p9 / 9) - 1)]) (rest := [.int v8_192, .int (9 * ((nI p9 / 9) - 1) + (nI p9 - nI p9 / 9 * 9)), .ref (a 3)]) ⟨hx, hb, hml, hown, hts⟩ (x_X2_riseRight l (nI p9 - nI p9 / 9 * 9) ((nI p9 / 9) - 1)) (va_cwS 2 hts gX2_measure_X2_riseRight rfl rfl rfl (by decide +kernel) ⟨Nat.le_of_ble_eq_true rfl, Nat.le_of_ble_eq_true rfl⟩) rfl hl.1 rfl (Nat.le_of_ble_eq_true rfl) dX2_measure_224 ⟨Nat.le_of_ble_eq_true rfl, Nat.le_of_ble_eq_true rfl⟩ ?_
              refine lv_iadd hx hb dX2_measure_227 ?_
              refine kM_v (As := [.int (9 * ((nI p9 / 9) - 1) + (nI p9 - nI p9 / 9 * 9)), .int (v8_192 + (g_rise (nI p9 - nI p9 / 9 * 9) ((nI p9 / 9) - 1)))]) (rest := []) (q0 := 3) ⟨hx, hb, hml, hown, hts⟩ (x_X2_reach5 l D cy a _ J (va_up I 99 m0_192) (va_up O 100 m1_192) (va_up (va_up R 5 m2_192) 6 m3_192) RO LL Y (9 * ((nI p9 / 9) - 1) + (nI p9 - nI p9 / 9 * 9)) (v8_192 + (g_rise (nI p9 - nI p9 / 9 * 9) ((nI p9 / 9) - 1))) hT hq hQ  ) (cwV 2 hts gX2_measure_X2_reach rfl rfl rfl (by decide +kernel) ⟨Nat.le_of_ble_eq_true rfl, Nat.le_of_ble_eq_true rfl⟩) hK hN hP hD hS hA rfl rfl rfl hl.1 rfl (Nat.le_of_ble_eq_true rfl) dX2_measure_228 ⟨Nat.le_of_ble_eq_true rfl, Nat.le_of_ble_eq_true rfl⟩ (fun u H locs hw hP hD hS => ?_)
              obtain ⟨w_5, w_6, w_7, w_8, ⟨hp_9, hp_10, hp_11, hp_12⟩, rfl⟩ := hw
              have hP : va_P D vwCl (CT cy a J (va_up I 99 w_5) (va_up O 100 w_6) (va_up (va_up R 5 w_7) 6 w_8) RO (LL ++ Y)) H := hP
              have hD : va_D A (CT cy a J (va_up I 99 w_5) (va_up O 100 w_6) (va_up (va_up R 5 w_7) 6 w_8) RO (LL ++ Y)) := hD
              refine lv_iinc (v := nI (i + 1)) (lv' := [(5, .int (nI (i + 1))), (0, .ref (a 3)), (1, .long x0), (3, .ref x1), (4, .ref (a 5)), (6, .int (nI p9 - nI p9 / 9 * 9)), (7, .int (nI p9 / 9)), (8, .int v8_192)]) hx hb dX2_measure_231 hl (k := 4) rfl (nI_1 _) (by decide) rfl (fun ls hl => ?_)
              refine lv_goto (tgt := 31) hx hb dX2_measure_234 (by decide) ?_
              exact ih31 (i + 1) w_5 w_6 w_7 w_8 hlt_i hp_9 hp_10 hp_11 (bs_4y hZH hfp9 hbt3 c_3 hp_12) (lt_dec hlt_i hn31) _ _ hP hD hS ls (lv_sub hl [1, 2, 3, 4, 0] rfl)
          refine lv_lload_n hx hb dX2_measure_157 rfl (lv_at hl 1 rfl) ?_
          refine lv_aload_n hx hb dX2_measure_158 rfl (lv_at hl 2 rfl) ?_
          refine lv_iload hx hb dX2_measure_159 (lv_at hl 5 rfl) ?_
          refine lv_iload hx hb dX2_measure_161 (lv_at hl 6 rfl) ?_
          obtain ⟨k_13, hk_14⟩ : ∃ k : Nat, (CT cy a J (va_up I 99 m0_157) (va_up O 100 m1_157) (va_up (va_up R 5 m2_157) 6 m3_157) RO (LL ++ Y))[k]? = some (x1, .inr (2, [.int y1, .long al1, .long ac1])) := pixT hm1
          refine kWR_i (As := [.long x0, .ref x1, .int (nI p9 - nI p9 / 9 * 9), .int (nI p9 / 9)]) (rest := []) ⟨hx, hb, hml, hown, hts⟩ (x_X2_isOpenSteep l D cy _ (CT cy a J (va_up I 99 m0_157) (va_up O 100 m1_157) (va_up (va_up R 5 m2_157) 6 m3_157) RO (LL ++ Y)) k_13 x1 y1 al1 ac1 hk_14 x0 (nI p9 - nI p9 / 9 * 9) (nI p9 / 9)) (va_cwS 4 hts gX2_measure_X2_isOpenSteep rfl rfl rfl (by decide +kernel) ⟨Nat.le_of_ble_eq_true rfl, Nat.le_of_ble_eq_true rfl⟩) hK hN hP hD rfl hl.1 rfl (Nat.le_of_ble_eq_true rfl) dX2_measure_163 ⟨Nat.le_of_ble_eq_true rfl, Nat.le_of_ble_eq_true rfl⟩ ?_
          refine lv_if_eq (tgt := 192) hx hb dX2_measure_166 (by decide) (fun c_15 => ?_) (fun c_15 => ?_)
          · replace c_15 := bI_f c_15
            exact lp192 p9 v8_157 m0_157 m1_157 m2_157 m3_157 hT hq hQ hlt_i (bs_3n hbt2 c_15)  _ _ hP hD hS ls (lv_sub hl [0, 1, 2, 3, 4, 5, 6, 7] rfl)
          · replace c_15 := bI_t c_15
            refine lv_aload_n hx hb dX2_measure_169 rfl (lv_at hl 0 rfl) ?_
            refine lv_iload hx hb dX2_measure_170 (lv_at hl 5 rfl) ?_
            refine lv_iload hx hb dX2_measure_172 (lv_at hl 6 rfl) ?_
            refine lv_iconst (v := 1) hx hb dX2_measure_174 (by decide) ?_
            refine lv_iadd hx hb dX2_measure_175 ?_
            refine kS_i (As := [.int (nI p9 - nI p9 / 9 * 9), .int ((nI p9 / 9) + 1)]) (rest := [.ref (a 3)]) ⟨hx, hb, hml, hown, hts⟩ (c_X2_pointOf l (nI p9 - nI p9 / 9 * 9) ((nI p9 / 9) + 1)) (va_cwS 2 hts gX2_measure_X2_pointOf rfl rfl rfl (by decide +kernel) ⟨Nat.le_of_ble_eq_true rfl, Nat.le_of_ble_eq_true rfl⟩) rfl hl.1 rfl (Nat.le_of_ble_eq_true rfl) dX2_measure_176 ⟨Nat.le_of_ble_eq_true rfl, Nat.le_of_ble_eq_true rfl⟩ ?_
            refine lv_iload hx hb dX2_measure_179 (lv_at hl 7 rfl) ?_
            refine lv_iload hx hb dX2_measure_181 (lv_at hl 5 rfl) ?_
            refine lv_iload hx hb dX2_measure_183 (lv_at hl 6 rfl) ?_
            refine kS_i (As := [.int (nI p9 - nI p9 / 9 * 9), .int (nI p9 / 9)]) (rest := [.int v8_157, .int (9 * ((nI p9 / 9) + 1) + (nI p9 - nI p9 / 9 * 9)), .ref (a 3)]) ⟨hx, hb, hml, hown, hts⟩ (x_X2_riseRight l (nI p9 - nI p9 / 9 * 9) (nI p9 / 9)) (va_cwS 2 hts gX2_measure_X2_riseRight rfl rfl rfl (by decide +kernel) ⟨Nat.le_of_ble_eq_true rfl, Nat.le_of_ble_eq_true rfl⟩) rfl hl.1 rfl (Nat.le_of_ble_eq_true rfl) dX2_measure_185 ⟨Nat.le_of_ble_eq_true rfl, Nat.le_of_ble_eq_true rfl⟩ ?_
            refine lv_isub hx hb dX2_measure_188 ?_
            refine kM_v (As := [.int (9 * ((nI p9 / 9) + 1) + (nI p9 - nI p9 / 9 * 9)), .int (v8_157 - (g_rise (nI p9 - nI p9 / 9 * 9) (nI p9 / 9)))]) (rest := []) (q0 := 3) ⟨hx, hb, hml, hown, hts⟩ (x_X2_reach5 l D cy a _ J (va_up I 99 m0_157) (va_up O 100 m1_157) (va_up (va_up R 5 m2_157) 6 m3_157) RO LL Y (9 * ((nI p9 / 9) + 1) + (nI p9 - nI p9 / 9 * 9)) (v8_157 - (g_rise (nI p9 - nI p9 / 9 * 9) (nI p9 / 9))) hT hq hQ  ) (cwV 2 hts gX2_measure_X2_reach rfl rfl rfl (by decide +kernel) ⟨Nat.le_of_ble_eq_true rfl, Nat.le_of_ble_eq_true rfl⟩) hK hN hP hD hS hA rfl rfl rfl hl.1 rfl (Nat.le_of_ble_eq_true rfl) dX2_measure_189 ⟨Nat.le_of_ble_eq_true rfl, Nat.le_of_ble_eq_true rfl⟩ (fun u H locs hw hP hD hS => ?_)
            obtain ⟨w_17, w_18, w_19, w_20, ⟨hp_21, hp_22, hp_23, hp_24⟩, rfl⟩ := hw
            have hP : va_P D vwCl (CT cy a J (va_up I 99 w_17) (va_up O 100 w_18) (va_up (va_up R 5 w_19) 6 w_20) RO (LL ++ Y)) H := hP
            have hD : va_D A (CT cy a J (va_up I 99 w_17) (va_up O 100 w_18) (va_up (va_up R 5 w_19) 6 w_20) RO (LL ++ Y)) := hD
            exact lp192 p9 v8_157 w_17 w_18 w_19 w_20 hp_21 hp_22 hp_23 hlt_i (bs_3y hZH hfp9 hbt2 c_15 hp_24)  _ _ hP hD hS ls (lv_sub hl [0, 1, 2, 3, 4, 5, 6, 7] rfl)
        refine lv_lload_n hx hb dX2_measure_118 rfl (lv_at hl 1 rfl) ?_
        refine lv_aload_n hx hb dX2_measure_119 rfl (lv_at hl 2 rfl) ?_
        refine lv_iload hx hb dX2_measure_120 (lv_at hl 5 rfl) ?_
        refine lv_iconst (v := 1) hx hb dX2_measure_122 (by decide) ?_
        refine lv_isub hx hb dX2_measure_123 ?_
        refine lv_iload hx hb dX2_measure_124 (lv_at hl 6 rfl) ?_
        obtain ⟨k_25, hk_26⟩ : ∃ k : Nat, (CT cy a J (va_up I 99 m0_118) (va_up O 100 m1_118) (va_up (va_up R 5 m2_118) 6 m3_118) RO (LL ++ Y))[k]? = some (x1, .inr (2, [.int y1, .long al1, .long ac1])) := pixT hm1
        refine kWR_i (As := [.long x0, .ref x1, .int ((nI p9 - nI p9 / 9 * 9) - 1), .int (nI p9 / 9)]) (rest := []) ⟨hx, hb, hml, hown, hts⟩ (x_X2_isOpenFlat l D cy _ (CT cy a J (va_up I 99 m0_118) (va_up O 100 m1_118) (va_up (va_up R 5 m2_118) 6 m3_118) RO (LL ++ Y)) k_25 x1 y1 al1 ac1 hk_26 x0 ((nI p9 - nI p9 / 9 * 9) - 1) (nI p9 / 9)) (va_cwS 4 hts gX2_measure_X2_isOpenFlat rfl rfl rfl (by decide +kernel) ⟨Nat.le_of_ble_eq_true rfl, Nat.le_of_ble_eq_true rfl⟩) hK hN hP hD rfl hl.1 rfl (Nat.le_of_ble_eq_true rfl) dX2_measure_126 ⟨Nat.le_of_ble_eq_true rfl, Nat.le_of_ble_eq_true rfl⟩ ?_
        refine lv_if_eq (tgt := 157) hx hb dX2_measure_129 (by decide) (fun c_27 => ?_) (fun c_27 => ?_)
        · replace c_27 := bI_f c_27
          exact lp157 p9 v8_118 m0_118 m1_118 m2_118 m3_118 hT hq hQ hlt_i (bs_2n hbt1 c_27)  _ _ hP hD hS ls (lv_sub hl [0, 1, 2, 3, 4, 5, 6, 7] rfl)
        · replace c_27 := bI_t c_27
          refine lv_aload_n hx hb dX2_measure_132 rfl (lv_at hl 0 rfl) ?_
          refine lv_iload hx hb dX2_measure_133 (lv_at hl 5 rfl) ?_
          refine lv_iconst (v := 1) hx hb dX2_measure_135 (by decide) ?_
          refine lv_isub hx hb dX2_measure_136 ?_
          refine lv_iload hx hb dX2_measure_137 (lv_at hl 6 rfl) ?_
          refine kS_i (As := [.int ((nI p9 - nI p9 / 9 * 9) - 1), .int (nI p9 / 9)]) (rest := [.ref (a 3)]) ⟨hx, hb, hml, hown, hts⟩ (c_X2_pointOf l ((nI p9 - nI p9 / 9 * 9) - 1) (nI p9 / 9)) (va_cwS 2 hts gX2_measure_X2_pointOf rfl rfl rfl (by decide +kernel) ⟨Nat.le_of_ble_eq_true rfl, Nat.le_of_ble_eq_true rfl⟩) rfl hl.1 rfl (Nat.le_of_ble_eq_true rfl) dX2_measure_139 ⟨Nat.le_of_ble_eq_true rfl, Nat.le_of_ble_eq_true rfl⟩ ?_
          refine lv_iload hx hb dX2_measure_142 (lv_at hl 7 rfl) ?_
          refine lv_iload hx hb dX2_measure_144 (lv_at hl 5 rfl) ?_
          refine lv_iconst (v := 1) hx hb dX2_measure_146 (by decide) ?_
          refine lv_isub hx hb dX2_measure_147 ?_
          refine lv_iload hx hb dX2_measure_148 (lv_at hl 6 rfl) ?_
          refine kS_i (As := [.int ((nI p9 - nI p9 / 9 * 9) - 1), .int (nI p9 / 9)]) (rest := [.int v8_118, .int (9 * (nI p9 / 9) + ((nI p9 - nI p9 / 9 * 9) - 1)), .ref (a 3)]) ⟨hx, hb, hml, hown, hts⟩ (x_X2_riseRight l ((nI p9 - nI p9 / 9 * 9) - 1) (nI p9 / 9)) (va_cwS 2 hts gX2_measure_X2_riseRight rfl rfl rfl (by decide +kernel) ⟨Nat.le_of_ble_eq_true rfl, Nat.le_of_ble_eq_true rfl⟩) rfl hl.1 rfl (Nat.le_of_ble_eq_true rfl) dX2_measure_150 ⟨Nat.le_of_ble_eq_true rfl, Nat.le_of_ble_eq_true rfl⟩ ?_
          refine lv_isub hx hb dX2_measure_153 ?_
          refine kM_v (As := [.int (9 * (nI p9 / 9) + ((nI p9 - nI p9 / 9 * 9) - 1)), .int (v8_118 - (g_rise ((nI p9 - nI p9 / 9 * 9) - 1) (nI p9 / 9)))]) (rest := []) (q0 := 3) ⟨hx, hb, hml, hown, hts⟩ (x_X2_reach5 l D cy a _ J (va_up I 99 m0_118) (va_up O 100 m1_118) (va_up (va_up R 5 m2_118) 6 m3_118) RO LL Y (9 * (nI p9 / 9) + ((nI p9 - nI p9 / 9 * 9) - 1)) (v8_118 - (g_rise ((nI p9 - nI p9 / 9 * 9) - 1) (nI p9 / 9))) hT hq hQ  ) (cwV 2 hts gX2_measure_X2_reach rfl rfl rfl (by decide +kernel) ⟨Nat.le_of_ble_eq_true rfl, Nat.le_of_ble_eq_true rfl⟩) hK hN hP hD hS hA rfl rfl rfl hl.1 rfl (Nat.le_of_ble_eq_true rfl) dX2_measure_154 ⟨Nat.le_of_ble_eq_true rfl, Nat.le_of_ble_eq_true rfl⟩ (fun u H locs hw hP hD hS => ?_)
          obtain ⟨w_29, w_30, w_31, w_32, ⟨hp_33, hp_34, hp_35, hp_36⟩, rfl⟩ := hw
          have hP : va_P D vwCl (CT cy a J (va_up I 99 w_29) (va_up O 100 w_30) (va_up (va_up R 5 w_31) 6 w_32) RO (LL ++ Y)) H := hP
          have hD : va_D A (CT cy a J (va_up I 99 w_29) (va_up O 100 w_30) (va_up (va_up R 5 w_31) 6 w_32) RO (LL ++ Y)) := hD
          exact lp157 p9 v8_118 w_29 w_30 w_31 w_32 hp_33 hp_34 hp_35 hlt_i (bs_2y hZH hfp9 hbt1 c_27 hp_36)  _ _ hP hD hS ls (lv_sub hl [0, 1, 2, 3, 4, 5, 6, 7] rfl)
      refine lv_iload hx hb dX2_measure_31 (lv_at hl 4 rfl) ?_
      refine lv_bipush (v := 81) hx hb dX2_measure_33 (by decide) ?_
      refine lv_icmp_ge (tgt := 237) hx hb dX2_measure_35 (by decide) (fun c_37 => ?_) (fun c_37 => ?_)
      · have hie_i := ctr_ge (N := 81) (by decide) hi c_37
        exact wret_v hx hb hr hlocks (J, (va_up I 99 m0_31), (va_up O 100 m1_31), (va_up (va_up R 5 m2_31) 6 m3_31), RO, LL, Y) ⟨m0_31, m1_31, m2_31, m3_31, ⟨hQ, (bS_e hly hwo.2 hf0 hi hbs (Or.inr hie_i)), (bS_bd hly hwo.2 hf0 hi hbs (Or.inr hie_i))⟩, rfl⟩ hP hD hS dX2_measure_237
      · have hlt_i := ctr_lt (N := 81) (by decide) hi c_37
        refine lv_iload hx hb dX2_measure_38 (lv_at hl 4 rfl) ?_
        refine lv_aload_n hx hb dX2_measure_40 rfl (lv_at hl 0 rfl) ?_
        refine va_get (D := D) (ci := 1) (v := .int m0_31) (C := RX2) (T := TX2) (N := 5) hx hb hts hi2 hown hK hP 3 rfl rfl 3 (by decide) hw0 (fun _ h9 => h9) rfl dX2_measure_41 ?_
        refine lv_icmp_ge (tgt := 237) hx hb dX2_measure_44 (by decide) (fun c_38 => ?_) (fun c_38 => ?_)
        · exact wret_v hx hb hr hlocks (J, (va_up I 99 m0_31), (va_up O 100 m1_31), (va_up (va_up R 5 m2_31) 6 m3_31), RO, LL, Y) ⟨m0_31, m1_31, m2_31, m3_31, ⟨hQ, (bS_e hly hwo.2 hf0 hi hbs (Or.inl c_38)), (bS_bd hly hwo.2 hf0 hi hbs (Or.inl c_38))⟩, rfl⟩ hP hD hS dX2_measure_237
        · obtain ⟨p9, ep9, hbt0⟩ := bS_t hlt_i hbs c_38
          refine lv_aload_n hx hb dX2_measure_47 rfl (lv_at hl 0 rfl) ?_
          refine va_get (D := D) (ci := 1) (v := .ref (a 6)) (C := RX2) (T := TX2) (N := 5) hx hb hts hi2 hown hK hP 3 rfl rfl 2 (by decide) hw1 (fun _ h9 => h9) rfl dX2_measure_48 ?_
          refine lv_iload hx hb dX2_measure_51 (lv_at hl 4 rfl) ?_
          refine va_iald hx hb hK hP 6 0 rfl rfl (vp_in_nI hlt_i (by decide)) dX2_measure_53 ?_
          refine wtop_i (y := nI p9) ep9 ?_
          refine lv_bipush (v := 9) hx hb dX2_measure_54 (by decide) ?_
          refine lv_irem hx hb dX2_measure_56 (by decide) ?_
          refine lv_istore (lv' := [(6, .int ((nI p9) - (nI p9) / 9 * 9)), (0, .ref (a 3)), (1, .long x0), (3, .ref x1), (4, .ref (a 5)), (5, .int (nI i))]) hx hb dX2_measure_57 hl (by decide) rfl (fun ls hl => ?_)
          refine lv_aload_n hx hb dX2_measure_59 rfl (lv_at hl 1 rfl) ?_
          refine va_get (D := D) (ci := 1) (v := .ref (a 6)) (C := RX2) (T := TX2) (N := 5) hx hb hts hi2 hown hK hP 3 rfl rfl 2 (by decide) hw1 (fun _ h9 => h9) rfl dX2_measure_60 ?_
          refine lv_iload hx hb dX2_measure_63 (lv_at hl 5 rfl) ?_
          refine va_iald hx hb hK hP 6 0 rfl rfl (vp_in_nI hlt_i (by decide)) dX2_measure_65 ?_
          refine wtop_i (y := nI p9) ep9 ?_
          refine lv_bipush (v := 9) hx hb dX2_measure_66 (by decide) ?_
          refine lv_idiv hx hb dX2_measure_68 (by decide) ?_
          refine lv_istore (lv' := [(7, .int ((nI p9) / 9)), (6, .int ((nI p9) - (nI p9) / 9 * 9)), (0, .ref (a 3)), (1, .long x0), (3, .ref x1), (4, .ref (a 5)), (5, .int (nI i))]) hx hb dX2_measure_69 hl (by decide) rfl (fun ls hl => ?_)
          refine lv_aload hx hb dX2_measure_71 (lv_at hl 5 rfl) ?_
          refine lv_aload_n hx hb dX2_measure_73 rfl (lv_at hl 2 rfl) ?_
          refine va_get (D := D) (ci := 1) (v := .ref (a 6)) (C := RX2) (T := TX2) (N := 5) hx hb hts hi2 hown hK hP 3 rfl rfl 2 (by decide) hw1 (fun _ h9 => h9) rfl dX2_measure_74 ?_
          refine lv_iload hx hb dX2_measure_77 (lv_at hl 6 rfl) ?_
          refine va_iald hx hb hK hP 6 0 rfl rfl (vp_in_nI hlt_i (by decide)) dX2_measure_79 ?_
          refine wtop_i (y := nI p9) ep9 ?_
          refine va_iald hx hb hK hP 5 0 rfl rfl (vp_in_nI (bT_i hbt0).1 (by decide)) dX2_measure_80 ?_
          refine lv_istore (lv' := [(8, .int (m2_31 (nI p9).toNatClampNeg)), (7, .int ((nI p9) / 9)), (6, .int ((nI p9) - (nI p9) / 9 * 9)), (0, .ref (a 3)), (1, .long x0), (3, .ref x1), (4, .ref (a 5)), (5, .int (nI i))]) hx hb dX2_measure_81 hl (by decide) rfl (fun ls hl => ?_)
          refine lv_lload_n hx hb dX2_measure_83 rfl (lv_at hl 4 rfl) ?_
          refine lv_aload_n hx hb dX2_measure_84 rfl (lv_at hl 5 rfl) ?_
          refine lv_iload hx hb dX2_measure_85 (lv_at hl 2 rfl) ?_
          refine lv_iload hx hb dX2_measure_87 (lv_at hl 1 rfl) ?_
          obtain ⟨k_39, hk_40⟩ : ∃ k : Nat, (CT cy a J (va_up I 99 m0_31) (va_up O 100 m1_31) (va_up (va_up R 5 m2_31) 6 m3_31) RO (LL ++ Y))[k]? = some (x1, .inr (2, [.int y1, .long al1, .long ac1])) := pixT hm1
          refine kWR_i (As := [.long x0, .ref x1, .int ((nI p9) - (nI p9) / 9 * 9), .int ((nI p9) / 9)]) (rest := []) ⟨hx, hb, hml, hown, hts⟩ (x_X2_isOpenFlat l D cy _ (CT cy a J (va_up I 99 m0_31) (va_up O 100 m1_31) (va_up (va_up R 5 m2_31) 6 m3_31) RO (LL ++ Y)) k_39 x1 y1 al1 ac1 hk_40 x0 ((nI p9) - (nI p9) / 9 * 9) ((nI p9) / 9)) (va_cwS 4 hts gX2_measure_X2_isOpenFlat rfl rfl rfl (by decide +kernel) ⟨Nat.le_of_ble_eq_true rfl, Nat.le_of_ble_eq_true rfl⟩) hK hN hP hD rfl hl.1 rfl (Nat.le_of_ble_eq_true rfl) dX2_measure_89 ⟨Nat.le_of_ble_eq_true rfl, Nat.le_of_ble_eq_true rfl⟩ ?_
          refine lv_if_eq (tgt := 118) hx hb dX2_measure_92 (by decide) (fun c_41 => ?_) (fun c_41 => ?_)
          · replace c_41 := bI_f c_41
            exact lp118 p9 (m2_31 (nI p9).toNatClampNeg) m0_31 m1_31 m2_31 m3_31 hT hq hQ hlt_i (bs_1n hbt0 c_41)  _ _ hP hD hS ls (lv_sub hl [3, 4, 5, 6, 7, 2, 1, 0] rfl)
          · replace c_41 := bI_t c_41
            refine lv_aload_n hx hb dX2_measure_95 rfl (lv_at hl 3 rfl) ?_
            refine lv_iload hx hb dX2_measure_96 (lv_at hl 2 rfl) ?_
            refine lv_iconst (v := 1) hx hb dX2_measure_98 (by decide) ?_
            refine lv_iadd hx hb dX2_measure_99 ?_
            refine lv_iload hx hb dX2_measure_100 (lv_at hl 1 rfl) ?_
            refine kS_i (As := [.int (((nI p9) - (nI p9) / 9 * 9) + 1), .int ((nI p9) / 9)]) (rest := [.ref (a 3)]) ⟨hx, hb, hml, hown, hts⟩ (c_X2_pointOf l (((nI p9) - (nI p9) / 9 * 9) + 1) ((nI p9) / 9)) (va_cwS 2 hts gX2_measure_X2_pointOf rfl rfl rfl (by decide +kernel) ⟨Nat.le_of_ble_eq_true rfl, Nat.le_of_ble_eq_true rfl⟩) rfl hl.1 rfl (Nat.le_of_ble_eq_true rfl) dX2_measure_102 ⟨Nat.le_of_ble_eq_true rfl, Nat.le_of_ble_eq_true rfl⟩ ?_
            refine lv_iload hx hb dX2_measure_105 (lv_at hl 0 rfl) ?_
            refine lv_iload hx hb dX2_measure_107 (lv_at hl 2 rfl) ?_
            refine lv_iload hx hb dX2_measure_109 (lv_at hl 1 rfl) ?_
            refine kS_i (As := [.int ((nI p9) - (nI p9) / 9 * 9), .int ((nI p9) / 9)]) (rest := [.int (m2_31 (nI p9).toNatClampNeg), .int (9 * ((nI p9) / 9) + (((nI p9) - (nI p9) / 9 * 9) + 1)), .ref (a 3)]) ⟨hx, hb, hml, hown, hts⟩ (x_X2_riseRight l ((nI p9) - (nI p9) / 9 * 9) ((nI p9) / 9)) (va_cwS 2 hts gX2_measure_X2_riseRight rfl rfl rfl (by decide +kernel) ⟨Nat.le_of_ble_eq_true rfl, Nat.le_of_ble_eq_true rfl⟩) rfl hl.1 rfl (Nat.le_of_ble_eq_true rfl) dX2_measure_111 ⟨Nat.le_of_ble_eq_true rfl, Nat.le_of_ble_eq_true rfl⟩ ?_
            refine lv_iadd hx hb dX2_measure_114 ?_
            refine kM_v (As := [.int (9 * ((nI p9) / 9) + (((nI p9) - (nI p9) / 9 * 9) + 1)), .int ((m2_31 (nI p9).toNatClampNeg) + (g_rise ((nI p9) - (nI p9) / 9 * 9) ((nI p9) / 9)))]) (rest := []) (q0 := 3) ⟨hx, hb, hml, hown, hts⟩ (x_X2_reach5 l D cy a _ J (va_up I 99 m0_31) (va_up O 100 m1_31) (va_up (va_up R 5 m2_31) 6 m3_31) RO LL Y (9 * ((nI p9) / 9) + (((nI p9) - (nI p9) / 9 * 9) + 1)) ((m2_31 (nI p9).toNatClampNeg) + (g_rise ((nI p9) - (nI p9) / 9 * 9) ((nI p9) / 9))) hT hq hQ  ) (cwV 2 hts gX2_measure_X2_reach rfl rfl rfl (by decide +kernel) ⟨Nat.le_of_ble_eq_true rfl, Nat.le_of_ble_eq_true rfl⟩) hK hN hP hD hS hA rfl rfl rfl hl.1 rfl (Nat.le_of_ble_eq_true rfl) dX2_measure_115 ⟨Nat.le_of_ble_eq_true rfl, Nat.le_of_ble_eq_true rfl⟩ (fun u H locs hw hP hD hS => ?_)
            obtain ⟨w_43, w_44, w_45, w_46, ⟨hp_47, hp_48, hp_49, hp_50⟩, rfl⟩ := hw
            have hP : va_P D vwCl (CT cy a J (va_up I 99 w_43) (va_up O 100 w_44) (va_up (va_up R 5 w_45) 6 w_46) RO (LL ++ Y)) H := hP
            have hD : va_D A (CT cy a J (va_up I 99 w_43) (va_up O 100 w_44) (va_up (va_up R 5 w_45) 6 w_46) RO (LL ++ Y)) := hD
            exact lp118 p9 (m2_31 (nI p9).toNatClampNeg) w_43 w_44 w_45 w_46 hp_47 hp_48 hp_49 hlt_i (bs_1y hZH hfp9 hbt0 c_41 hp_50)  _ _ hP hD hS ls (lv_sub hl [3, 4, 5, 6, 7, 2, 1, 0] rfl)
  have hP : va_P D vwCl (CT cy a J (va_up I 99 (I 99)) (va_up O 100 (O 100)) (va_up (va_up R 5 (R 5)) 6 (R 6)) RO (LL ++ Y)) s.heap := hP
  have hD : va_D A (CT cy a J (va_up I 99 (I 99)) (va_up O 100 (O 100)) (va_up (va_up R 5 (R 5)) 6 (R 6)) RO (LL ++ Y)) := hD
  refine lv_aload hx hb dX2_measure_0 (lv_at hl 3 rfl) ?_
  refine lv_sipush (v := 1000) hx hb dX2_measure_2 (by decide) ?_
  refine kW_v (As := [.ref (a 5), .int 1000]) (rest := []) ⟨hx, hb, hml, hown, hts⟩ (x_fillh5 l D cy a _ J (va_up I 99 (I 99)) (va_up O 100 (O 100)) (va_up (va_up R 5 (R 5)) 6 (R 6)) RO LL Y (1000 : Int32)   ) (va_cwS 2 hts gX2_measure_J7_fill_53178 rfl rfl rfl (by decide +kernel) ⟨Nat.le_of_ble_eq_true rfl, Nat.le_of_ble_eq_true rfl⟩) hK hN hP hD hS hA rfl hl.1 rfl (Nat.le_of_ble_eq_true rfl) dX2_measure_5 ⟨Nat.le_of_ble_eq_true rfl, Nat.le_of_ble_eq_true rfl⟩ (fun u H locs hw hP hD hS => ?_)
  obtain ⟨w_52, hp_53, rfl⟩ := hw
  have hP : va_P D vwCl (CT cy a J (va_up I 99 (I 99)) (va_up O 100 (O 100)) (va_up (va_up R 5 w_52) 6 (R 6)) RO (LL ++ Y)) H := hP
  have hD : va_D A (CT cy a J (va_up I 99 (I 99)) (va_up O 100 (O 100)) (va_up (va_up R 5 w_52) 6 (R 6)) RO (LL ++ Y)) := hD
  refine lv_aload_n hx hb dX2_measure_8 rfl (lv_at hl 0 rfl) ?_
  refine lv_aload hx hb dX2_measure_9 (lv_at hl 3 rfl) ?_
  refine va_put (D := D) (ci := 1) (v := .ref (a 5)) (ty := .array .int) (C := RX2) (T := TX2) (N := 5) hx hb hts hi2 tyX2 tyX2_ok nmX2 hown hK hP hD hS 3 rfl rfl 4 (by decide) hw2 (fun _ h9 => h9) rfl (by decide +kernel) rfl rfl (Nat.le_of_ble_eq_true rfl) dX2_measure_11 (fun H locs hP hD hS => ?_)
  have hP : va_P D vwCl (CT cy a J (va_up I 99 (I 99)) (va_up O 100 (some (a 5))) (va_up (va_up R 5 w_52) 6 (R 6)) RO (LL ++ Y)) H := hP
  have hD : va_D A (CT cy a J (va_up I 99 (I 99)) (va_up O 100 (some (a 5))) (va_up (va_up R 5 w_52) 6 (R 6)) RO (LL ++ Y)) := hD
  refine lv_aload_n hx hb dX2_measure_14 rfl (lv_at hl 0 rfl) ?_
  refine lv_iconst (v := 0) hx hb dX2_measure_15 (by decide) ?_
  refine va_put (D := D) (ci := 1) (v := .int 0) (ty := .int) (C := RX2) (T := TX2) (N := 5) hx hb hts hi2 tyX2 tyX2_ok nmX2 hown hK hP hD hS 3 rfl rfl 3 (by decide) hw0 (fun _ h9 => h9) rfl (by decide +kernel) rfl rfl (Nat.le_of_ble_eq_true rfl) dX2_measure_16 (fun H locs hP hD hS => ?_)
  have hP : va_P D vwCl (CT cy a J (va_up I 99 0) (va_up O 100 (some (a 5))) (va_up (va_up R 5 w_52) 6 (R 6)) RO (LL ++ Y)) H := hP
  have hD : va_D A (CT cy a J (va_up I 99 0) (va_up O 100 (some (a 5))) (va_up (va_up R 5 w_52) 6 (R 6)) RO (LL ++ Y)) := hD
  refine lv_aload_n hx hb dX2_measure_19 rfl (lv_at hl 0 rfl) ?_
  refine lv_lload_n hx hb dX2_measure_20 rfl (lv_at hl 1 rfl) ?_
  refine kSa_i (As := [.long x0]) (rest := [.ref (a 3)]) ⟨hx, hb, hml, hown, hts⟩ (x_X2_firstPoint l x0 (zF0 x0) hf0) (va_cwS 1 hts gX2_measure_X2_firstPoint rfl rfl rfl (by decide +kernel) ⟨Nat.le_of_ble_eq_true rfl, Nat.le_of_ble_eq_true rfl⟩) rfl hl.1 rfl (Nat.le_of_ble_eq_true rfl) dX2_measure_21 ⟨Nat.le_of_ble_eq_true rfl, Nat.le_of_ble_eq_true rfl⟩ (fun r_54 hr_55 => ?_)
  refine lv_iconst (v := 0) hx hb dX2_measure_24 (by decide) ?_
  refine kM_v (As := [.int r_54, .int 0]) (rest := []) (q0 := 3) ⟨hx, hb, hml, hown, hts⟩ (x_X2_reach5 l D cy a _ J (va_up I 99 0) (va_up O 100 (some (a 5))) (va_up (va_up R 5 w_52) 6 (R 6)) RO LL Y r_54 (0 : Int32) rfl z82 hQ  ) (cwV 2 hts gX2_measure_X2_reach rfl rfl rfl (by decide +kernel) ⟨Nat.le_of_ble_eq_true rfl, Nat.le_of_ble_eq_true rfl⟩) hK hN hP hD hS hA rfl rfl rfl hl.1 rfl (Nat.le_of_ble_eq_true rfl) dX2_measure_25 ⟨Nat.le_of_ble_eq_true rfl, Nat.le_of_ble_eq_true rfl⟩ (fun u H locs hw hP hD hS => ?_)
  obtain ⟨w_57, w_58, w_59, w_60, ⟨hp_61, hp_62, hp_63, hp_64⟩, rfl⟩ := hw
  have hP : va_P D vwCl (CT cy a J (va_up I 99 w_57) (va_up O 100 w_58) (va_up (va_up R 5 w_59) 6 w_60) RO (LL ++ Y)) H := hP
  have hD : va_D A (CT cy a J (va_up I 99 w_57) (va_up O 100 w_58) (va_up (va_up R 5 w_59) 6 w_60) RO (LL ++ Y)) := hD
  refine lv_iconst (v := 0) hx hb dX2_measure_28 (by decide) ?_
  refine lv_istore (lv' := [(5, .int 0), (0, .ref (a 3)), (1, .long x0), (3, .ref x1), (4, .ref (a 5))]) hx hb dX2_measure_29 hl (by decide) rfl (fun ls hl => ?_)
  exact lp31 _ 0 w_57 w_58 w_59 w_60 (Nat.zero_le _) hp_61 hp_62 hp_63 (bS_0 hf0 hr_55 hp_53 hp_64) (Nat.lt_succ_self _) _ _ hP hD hS ls (lv_sub hl [1, 2, 3, 4, 0] rfl)
