set_option maxHeartbeats 4000000 in
set_option maxRecDepth 100000 in
theorem x_fill13 (l : Launch) (D : va_G) (cy : Nat → ClassId) (a : Nat → Nat) (sz : Nat) (J : Nat → Int64) (I : Nat → Int32) (O : Nat → Option Nat) (R : Nat → Nat → Int32) (RO : Nat → Nat → Option Nat) (LL : va_W) (Y : va_W) (x1 : Int32) : Met l yJ7_fill_53178 wsJ7_fill_53178 ({ frames := 0, cells := 0, slots := 0, locals := 0 }) (va_Pc [.ref (a 13), .int x1] (PW D cy sz (CT cy a J I O R RO (LL ++ Y)))) (va_Qv (fun (u : TS) => ∃ (w0 : Nat → Int32), ((∀ p, p < 16 → w0 p = x1)) ∧ u = (J, I, O, (va_up R 13 w0), RO, LL, Y)) (BW D (va_A (CT cy a J I O R RO (LL ++ Y)) sz) (CTu cy a)) (va_A (CT cy a J I O R RO (LL ++ Y)) sz)) 0 0 (va_A (CT cy a J I O R RO (LL ++ Y)) sz) := by
  refine Met.ofW (cc := cJ7_fill_53178) (maxL := 4) (ret := none) (by decide) rfl ?_
  intro p e s m args below meth c s₁ B hml hv
  obtain ⟨rfl, rfl, hP, hK, hN, hD0⟩ := hv
  have hx := B.exec
  have hb := B.bytes
  have hr := B.returns
  have hts := atoms_spec (ws := wsJ7_fill_53178) B.pre
  have hown : s.vm.findClass RJ7 = some m.cls := findClass_of_methodNamed B.named
  have hlocks := B.notSynchronized
  have hD := hD0.self (sz := s.heap.size)
  generalize hAe : va_A (CT cy a J I O R RO (LL ++ Y)) s.heap.size = A at hD ⊢
  have hA : ∀ q : Nat, s.heap.size ≤ q → A q := fun q h => by rw [← hAe]; exact Or.inr h
  have hS : va_S A s.heap s.heap [] := va_S.rf
  have hl := lv_entry ([.ref (a 13), .int x1]) (n := 4) (Nat.le_of_ble_eq_true rfl)
  rw [lg_entry_eq]
  generalize (lg_sl ([.ref (a 13), .int x1]) ++ List.replicate (4 - (lg_sl ([.ref (a 13), .int x1])).length) Slot.unset).toArray = ls at hl ⊢
  have hl : lv_has ls 4 [(0, .ref (a 13)), (1, .int x1)] := hl
  have lp5 : ∀ (n5 : Nat), ∀ (i : Nat) (m0_5 : Nat → Int32), (i ≤ 16) → (∀ p, p < i → m0_5 p = x1) → (16 - i) < n5 → ∀ (H : Heap) (locs : List Loc), va_P D vwCl (CT cy a J I O (va_up R 13 m0_5) RO (LL ++ Y)) H → va_D A (CT cy a J I O (va_up R 13 m0_5) RO (LL ++ Y)) → va_S A s.heap H locs → ∀ (ls : Array Slot), lv_has ls 4 [(0, .ref (a 13)), (1, .int x1), (2, .int (nI i)), (3, .int 16)] → W p l e (headSpec wsJ7_fill_53178 ({ frames := 0, cells := 0, slots := 0, locals := 0 })).room s m ([.ref (a 13), .int x1] : List Value).toArray below meth c H locs 0 0 (MQ below (va_Qv (fun (u : TS) => ∃ (w0 : Nat → Int32), ((∀ p, p < 16 → w0 p = x1)) ∧ u = (J, I, O, (va_up R 13 w0), RO, LL, Y)) (BW D A (CTu cy a)) A) ([.ref (a 13), .int x1] : List Value).toArray s 0 0 A) (F0 m 5 ls []) := by
    intro n5
    induction n5 with
    | zero => intro i m0_5 hi hfp hn; exact absurd hn (Nat.not_lt_zero _)
    | succ n5 ih5 =>
      intro i m0_5 hi hfp hn5 H locs hP hD hS ls hl
      refine lv_iload_n hx hb dJ7_fill_53178_5 rfl (lv_at hl 2 rfl) ?_
      refine lv_iload_n hx hb dJ7_fill_53178_6 rfl (lv_at hl 3 rfl) ?_
      refine lv_icmp_ge (tgt := 20) hx hb dJ7_fill_53178_7 (by decide) (fun c_1 => ?_) (fun c_1 => ?_)
      · have hie := ctr_ge (N := 16) (by decide) hi c_1
        exact wret_v hx hb hr hlocks (J, I, O, (va_up R 13 m0_5), RO, LL, Y) ⟨m0_5, (by rw [hie] at hfp; exact hfp), rfl⟩ hP hD hS dJ7_fill_53178_20
      · have hlt_i := ctr_lt (N := 16) (by decide) hi c_1
        refine lv_aload_n hx hb dJ7_fill_53178_10 rfl (lv_at hl 0 rfl) ?_
        refine lv_iload_n hx hb dJ7_fill_53178_11 rfl (lv_at hl 2 rfl) ?_
        refine lv_iload_n hx hb dJ7_fill_53178_12 rfl (lv_at hl 1 rfl) ?_
        refine va_iast hx hb hK hP hD hS 13 0 rfl rfl (vp_in_nI hlt_i (by decide)) dJ7_fill_53178_13 (fun H locs hP hD hS => ?_)
        have hP : va_P D vwCl (CT cy a J I O (va_up R 13 (upd m0_5 (nI i).toNatClampNeg x1)) RO (LL ++ Y)) H := hP
        have hD : va_D A (CT cy a J I O (va_up R 13 (upd m0_5 (nI i).toNatClampNeg x1)) RO (LL ++ Y)) := hD
        refine lv_iinc (v := nI (i + 1)) (lv' := [(2, .int (nI (i + 1))), (0, .ref (a 13)), (1, .int x1), (3, .int 16)]) hx hb dJ7_fill_53178_14 hl (k := 2) rfl (nI_1 _) (by decide) rfl (fun ls hl => ?_)
        refine lv_goto (tgt := 5) hx hb dJ7_fill_53178_17 (by decide) ?_
        exact ih5 (i + 1) (upd m0_5 (nI i).toNatClampNeg x1) hlt_i (fill_up (Nat.lt_trans hlt_i (by decide)) hfp) (lt_dec hlt_i hn5) _ _ hP hD hS ls (lv_sub hl [1, 2, 0, 3] rfl)
  have hP : va_P D vwCl (CT cy a J I O (va_up R 13 (R 13)) RO (LL ++ Y)) s.heap := hP
  have hD : va_D A (CT cy a J I O (va_up R 13 (R 13)) RO (LL ++ Y)) := hD
  refine lv_iconst (v := 0) hx hb dJ7_fill_53178_0 (by decide) ?_
  refine lv_istore_n (lv' := [(2, .int 0), (0, .ref (a 13)), (1, .int x1)]) hx hb dJ7_fill_53178_1 rfl hl (by decide) rfl (fun ls hl => ?_)
  refine lv_aload_n hx hb dJ7_fill_53178_2 rfl (lv_at hl 1 rfl) ?_
  refine va_alen hx hb hK hP 13 0 rfl rfl (v := 16) rfl dJ7_fill_53178_3 ?_
  refine lv_istore_n (lv' := [(3, .int 16), (2, .int 0), (0, .ref (a 13)), (1, .int x1)]) hx hb dJ7_fill_53178_4 rfl hl (by decide) rfl (fun ls hl => ?_)
  exact lp5 _ 0 (R 13) (by omega) (fun p h => absurd h (Nat.not_lt_zero _)) (Nat.lt_succ_self _) _ _ hP hD hS ls (lv_sub hl [2, 3, 1, 0] rfl)
set_option maxHeartbeats 4000000 in
set_option maxRecDepth 100000 in
theorem x_fill15 (l : Launch) (D : va_G) (cy : Nat → ClassId) (a : Nat → Nat) (sz : Nat) (J : Nat → Int64) (I : Nat → Int32) (O : Nat → Option Nat) (R : Nat → Nat → Int32) (RO : Nat → Nat → Option Nat) (LL : va_W) (Y : va_W) (x1 : Int32) : Met l yJ7_fill_53178 wsJ7_fill_53178 ({ frames := 0, cells := 0, slots := 0, locals := 0 }) (va_Pc [.ref (a 15), .int x1] (PW D cy sz (CT cy a J I O R RO (LL ++ Y)))) (va_Qv (fun (u : TS) => ∃ (w0 : Nat → Int32), ((∀ p, p < 16 → w0 p = x1)) ∧ u = (J, I, O, (va_up R 15 w0), RO, LL, Y)) (BW D (va_A (CT cy a J I O R RO (LL ++ Y)) sz) (CTu cy a)) (va_A (CT cy a J I O R RO (LL ++ Y)) sz)) 0 0 (va_A (CT cy a J I O R RO (LL ++ Y)) sz) := by
  refine Met.ofW (cc := cJ7_fill_53178) (maxL := 4) (ret := none) (by decide) rfl ?_
  intro p e s m args below meth c s₁ B hml hv
  obtain ⟨rfl, rfl, hP, hK, hN, hD0⟩ := hv
  have hx := B.exec
  have hb := B.bytes
  have hr := B.returns
  have hts := atoms_spec (ws := wsJ7_fill_53178) B.pre
  have hown : s.vm.findClass RJ7 = some m.cls := findClass_of_methodNamed B.named
  have hlocks := B.notSynchronized
  have hD := hD0.self (sz := s.heap.size)
  generalize hAe : va_A (CT cy a J I O R RO (LL ++ Y)) s.heap.size = A at hD ⊢
  have hA : ∀ q : Nat, s.heap.size ≤ q → A q := fun q h => by rw [← hAe]; exact Or.inr h
  have hS : va_S A s.heap s.heap [] := va_S.rf
  have hl := lv_entry ([.ref (a 15), .int x1]) (n := 4) (Nat.le_of_ble_eq_true rfl)
  rw [lg_entry_eq]
  generalize (lg_sl ([.ref (a 15), .int x1]) ++ List.replicate (4 - (lg_sl ([.ref (a 15), .int x1])).length) Slot.unset).toArray = ls at hl ⊢
  have hl : lv_has ls 4 [(0, .ref (a 15)), (1, .int x1)] := hl
  have lp5 : ∀ (n5 : Nat), ∀ (i : Nat) (m0_5 : Nat → Int32), (i ≤ 16) → (∀ p, p < i → m0_5 p = x1) → (16 - i) < n5 → ∀ (H : Heap) (locs : List Loc), va_P D vwCl (CT cy a J I O (va_up R 15 m0_5) RO (LL ++ Y)) H → va_D A (CT cy a J I O (va_up R 15 m0_5) RO (LL ++ Y)) → va_S A s.heap H locs → ∀ (ls : Array Slot), lv_has ls 4 [(0, .ref (a 15)), (1, .int x1), (2, .int (nI i)), (3, .int 16)] → W p l e (headSpec wsJ7_fill_53178 ({ frames := 0, cells := 0, slots := 0, locals := 0 })).room s m ([.ref (a 15), .int x1] : List Value).toArray below meth c H locs 0 0 (MQ below (va_Qv (fun (u : TS) => ∃ (w0 : Nat → Int32), ((∀ p, p < 16 → w0 p = x1)) ∧ u = (J, I, O, (va_up R 15 w0), RO, LL, Y)) (BW D A (CTu cy a)) A) ([.ref (a 15), .int x1] : List Value).toArray s 0 0 A) (F0 m 5 ls []) := by
    intro n5
    induction n5 with
    | zero => intro i m0_5 hi hfp hn; exact absurd hn (Nat.not_lt_zero _)
    | succ n5 ih5 =>
      intro i m0_5 hi hfp hn5 H locs hP hD hS ls hl
      refine lv_iload_n hx hb dJ7_fill_53178_5 rfl (lv_at hl 2 rfl) ?_
      refine lv_iload_n hx hb dJ7_fill_53178_6 rfl (lv_at hl 3 rfl) ?_
      refine lv_icmp_ge (tgt := 20) hx hb dJ7_fill_53178_7 (by decide) (fun c_1 => ?_) (fun c_1 => ?_)
      · have hie := ctr_ge (N := 16) (by decide) hi c_1
        exact wret_v hx hb hr hlocks (J, I, O, (va_up R 15 m0_5), RO, LL, Y) ⟨m0_5, (by rw [hie] at hfp; exact hfp), rfl⟩ hP hD hS dJ7_fill_53178_20
      · have hlt_i := ctr_lt (N := 16) (by decide) hi c_1
        refine lv_aload_n hx hb dJ7_fill_53178_10 rfl (lv_at hl 0 rfl) ?_
        refine lv_iload_n hx hb dJ7_fill_53178_11 rfl (lv_at hl 2 rfl) ?_
        refine lv_iload_n hx hb dJ7_fill_53178_12 rfl (lv_at hl 1 rfl) ?_
        refine va_iast hx hb hK hP hD hS 15 0 rfl rfl (vp_in_nI hlt_i (by decide)) dJ7_fill_53178_13 (fun H locs hP hD hS => ?_)
        have hP : va_P D vwCl (CT cy a J I O (va_up R 15 (upd m0_5 (nI i).toNatClampNeg x1)) RO (LL ++ Y)) H := hP
        have hD : va_D A (CT cy a J I O (va_up R 15 (upd m0_5 (nI i).toNatClampNeg x1)) RO (LL ++ Y)) := hD
        refine lv_iinc (v := nI (i + 1)) (lv' := [(2, .int (nI (i + 1))), (0, .ref (a 15)), (1, .int x1), (3, .int 16)]) hx hb dJ7_fill_53178_14 hl (k := 2) rfl (nI_1 _) (by decide) rfl (fun ls hl => ?_)
        refine lv_goto (tgt := 5) hx hb dJ7_fill_53178_17 (by decide) ?_
        exact ih5 (i + 1) (upd m0_5 (nI i).toNatClampNeg x1) hlt_i (fill_up (Nat.lt_trans hlt_i (by decide)) hfp) (lt_dec hlt_i hn5) _ _ hP hD hS ls (lv_sub hl [1, 2, 0, 3] rfl)
  have hP : va_P D vwCl (CT cy a J I O (va_up R 15 (R 15)) RO (LL ++ Y)) s.heap := hP
  have hD : va_D A (CT cy a J I O (va_up R 15 (R 15)) RO (LL ++ Y)) := hD
  refine lv_iconst (v := 0) hx hb dJ7_fill_53178_0 (by decide) ?_
  refine lv_istore_n (lv' := [(2, .int 0), (0, .ref (a 15)), (1, .int x1)]) hx hb dJ7_fill_53178_1 rfl hl (by decide) rfl (fun ls hl => ?_)
  refine lv_aload_n hx hb dJ7_fill_53178_2 rfl (lv_at hl 1 rfl) ?_
  refine va_alen hx hb hK hP 15 0 rfl rfl (v := 16) rfl dJ7_fill_53178_3 ?_
  refine lv_istore_n (lv' := [(3, .int 16), (2, .int 0), (0, .ref (a 15)), (1, .int x1)]) hx hb dJ7_fill_53178_4 rfl hl (by decide) rfl (fun ls hl => ?_)
  exact lp5 _ 0 (R 15) (by omega) (fun p h => absurd h (Nat.not_lt_zero _)) (Nat.lt_succ_self _) _ _ hP hD hS ls (lv_sub hl [2, 3, 1, 0] rfl)
set_option maxHeartbeats 4000000 in
set_option maxRecDepth 100000 in
theorem x_fill17 (l : Launch) (D : va_G) (cy : Nat → ClassId) (a : Nat → Nat) (sz : Nat) (J : Nat → Int64) (I : Nat → Int32) (O : Nat → Option Nat) (R : Nat → Nat → Int32) (RO : Nat → Nat → Option Nat) (LL : va_W) (Y : va_W) (x1 : Int32) : Met l yJ7_fill_53178 wsJ7_fill_53178 ({ frames := 0, cells := 0, slots := 0, locals := 0 }) (va_Pc [.ref (a 17), .int x1] (PW D cy sz (CT cy a J I O R RO (LL ++ Y)))) (va_Qv (fun (u : TS) => ∃ (w0 : Nat → Int32), ((∀ p, p < 16 → w0 p = x1)) ∧ u = (J, I, O, (va_up R 17 w0), RO, LL, Y)) (BW D (va_A (CT cy a J I O R RO (LL ++ Y)) sz) (CTu cy a)) (va_A (CT cy a J I O R RO (LL ++ Y)) sz)) 0 0 (va_A (CT cy a J I O R RO (LL ++ Y)) sz) := by
  refine Met.ofW (cc := cJ7_fill_53178) (maxL := 4) (ret := none) (by decide) rfl ?_
  intro p e s m args below meth c s₁ B hml hv
  obtain ⟨rfl, rfl, hP, hK, hN, hD0⟩ := hv
  have hx := B.exec
  have hb := B.bytes
  have hr := B.returns
  have hts := atoms_spec (ws := wsJ7_fill_53178) B.pre
  have hown : s.vm.findClass RJ7 = some m.cls := findClass_of_methodNamed B.named
  have hlocks := B.notSynchronized
  have hD := hD0.self (sz := s.heap.size)
  generalize hAe : va_A (CT cy a J I O R RO (LL ++ Y)) s.heap.size = A at hD ⊢
  have hA : ∀ q : Nat, s.heap.size ≤ q → A q := fun q h => by rw [← hAe]; exact Or.inr h
  have hS : va_S A s.heap s.heap [] := va_S.rf
  have hl := lv_entry ([.ref (a 17), .int x1]) (n := 4) (Nat.le_of_ble_eq_true rfl)
  rw [lg_entry_eq]
  generalize (lg_sl ([.ref (a 17), .int x1]) ++ List.replicate (4 - (lg_sl ([.ref (a 17), .int x1])).length) Slot.unset).toArray = ls at hl ⊢
  have hl : lv_has ls 4 [(0, .ref (a 17)), (1, .int x1)] := hl
  have lp5 : ∀ (n5 : Nat), ∀ (i : Nat) (m0_5 : Nat → Int32), (i ≤ 16) → (∀ p, p < i → m0_5 p = x1) → (16 - i) < n5 → ∀ (H : Heap) (locs : List Loc), va_P D vwCl (CT cy a J I O (va_up R 17 m0_5) RO (LL ++ Y)) H → va_D A (CT cy a J I O (va_up R 17 m0_5) RO (LL ++ Y)) → va_S A s.heap H locs → ∀ (ls : Array Slot), lv_has ls 4 [(0, .ref (a 17)), (1, .int x1), (2, .int (nI i)), (3, .int 16)] → W p l e (headSpec wsJ7_fill_53178 ({ frames := 0, cells := 0, slots := 0, locals := 0 })).room s m ([.ref (a 17), .int x1] : List Value).toArray below meth c H locs 0 0 (MQ below (va_Qv (fun (u : TS) => ∃ (w0 : Nat → Int32), ((∀ p, p < 16 → w0 p = x1)) ∧ u = (J, I, O, (va_up R 17 w0), RO, LL, Y)) (BW D A (CTu cy a)) A) ([.ref (a 17), .int x1] : List Value).toArray s 0 0 A) (F0 m 5 ls []) := by
    intro n5
    induction n5 with
    | zero => intro i m0_5 hi hfp hn; exact absurd hn (Nat.not_lt_zero _)
    | succ n5 ih5 =>
      intro i m0_5 hi hfp hn5 H locs hP hD hS ls hl
      refine lv_iload_n hx hb dJ7_fill_53178_5 rfl (lv_at hl 2 rfl) ?_
      refine lv_iload_n hx hb dJ7_fill_53178_6 rfl (lv_at hl 3 rfl) ?_
      refine lv_icmp_ge (tgt := 20) hx hb dJ7_fill_53178_7 (by decide) (fun c_1 => ?_) (fun c_1 => ?_)
      · have hie := ctr_ge (N := 16) (by decide) hi c_1
        exact wret_v hx hb hr hlocks (J, I, O, (va_up R 17 m0_5), RO, LL, Y) ⟨m0_5, (by rw [hie] at hfp; exact hfp), rfl⟩ hP hD hS dJ7_fill_53178_20
      · have hlt_i := ctr_lt (N := 16) (by decide) hi c_1
        refine lv_aload_n hx hb dJ7_fill_53178_10 rfl (lv_at hl 0 rfl) ?_
        refine lv_iload_n hx hb dJ7_fill_53178_11 rfl (lv_at hl 2 rfl) ?_
        refine lv_iload_n hx hb dJ7_fill_53178_12 rfl (lv_at hl 1 rfl) ?_
        refine va_iast hx hb hK hP hD hS 17 0 rfl rfl (vp_in_nI hlt_i (by decide)) dJ7_fill_53178_13 (fun H locs hP hD hS => ?_)
        have hP : va_P D vwCl (CT cy a J I O (va_up R 17 (upd m0_5 (nI i).toNatClampNeg x1)) RO (LL ++ Y)) H := hP
        have hD : va_D A (CT cy a J I O (va_up R 17 (upd m0_5 (nI i).toNatClampNeg x1)) RO (LL ++ Y)) := hD
        refine lv_iinc (v := nI (i + 1)) (lv' := [(2, .int (nI (i + 1))), (0, .ref (a 17)), (1, .int x1), (3, .int 16)]) hx hb dJ7_fill_53178_14 hl (k := 2) rfl (nI_1 _) (by decide) rfl (fun ls hl => ?_)
        refine lv_goto (tgt := 5) hx hb dJ7_fill_53178_17 (by decide) ?_
        exact ih5 (i + 1) (upd m0_5 (nI i).toNatClampNeg x1) hlt_i (fill_up (Nat.lt_trans hlt_i (by decide)) hfp) (lt_dec hlt_i hn5) _ _ hP hD hS ls (lv_sub hl [1, 2, 0, 3] rfl)
  have hP : va_P D vwCl (CT cy a J I O (va_up R 17 (R 17)) RO (LL ++ Y)) s.heap := hP
  have hD : va_D A (CT cy a J I O (va_up R 17 (R 17)) RO (LL ++ Y)) := hD
  refine lv_iconst (v := 0) hx hb dJ7_fill_53178_0 (by decide) ?_
  refine lv_istore_n (lv' := [(2, .int 0), (0, .ref (a 17)), (1, .int x1)]) hx hb dJ7_fill_53178_1 rfl hl (by decide) rfl (fun ls hl => ?_)
  refine lv_aload_n hx hb dJ7_fill_53178_2 rfl (lv_at hl 1 rfl) ?_
  refine va_alen hx hb hK hP 17 0 rfl rfl (v := 16) rfl dJ7_fill_53178_3 ?_
  refine lv_istore_n (lv' := [(3, .int 16), (2, .int 0), (0, .ref (a 17)), (1, .int x1)]) hx hb dJ7_fill_53178_4 rfl hl (by decide) rfl (fun ls hl => ?_)
  exact lp5 _ 0 (R 17) (by omega) (fun p h => absurd h (Nat.not_lt_zero _)) (Nat.lt_succ_self _) _ _ hP hD hS ls (lv_sub hl [2, 3, 1, 0] rfl)
set_option maxHeartbeats 4000000 in
set_option maxRecDepth 100000 in
theorem x_fill19 (l : Launch) (D : va_G) (cy : Nat → ClassId) (a : Nat → Nat) (sz : Nat) (J : Nat → Int64) (I : Nat → Int32) (O : Nat → Option Nat) (R : Nat → Nat → Int32) (RO : Nat → Nat → Option Nat) (LL : va_W) (Y : va_W) (x1 : Int32) : Met l yJ7_fill_53178 wsJ7_fill_53178 ({ frames := 0, cells := 0, slots := 0, locals := 0 }) (va_Pc [.ref (a 19), .int x1] (PW D cy sz (CT cy a J I O R RO (LL ++ Y)))) (va_Qv (fun (u : TS) => ∃ (w0 : Nat → Int32), ((∀ p, p < 16 → w0 p = x1)) ∧ u = (J, I, O, (va_up R 19 w0), RO, LL, Y)) (BW D (va_A (CT cy a J I O R RO (LL ++ Y)) sz) (CTu cy a)) (va_A (CT cy a J I O R RO (LL ++ Y)) sz)) 0 0 (va_A (CT cy a J I O R RO (LL ++ Y)) sz) := by
  refine Met.ofW (cc := cJ7_fill_53178) (maxL := 4) (ret := none) (by decide) rfl ?_
  intro p e s m args below meth c s₁ B hml hv
  obtain ⟨rfl, rfl, hP, hK, hN, hD0⟩ := hv
  have hx := B.exec
  have hb := B.bytes
  have hr := B.returns
  have hts := atoms_spec (ws := wsJ7_fill_53178) B.pre
  have hown : s.vm.findClass RJ7 = some m.cls := findClass_of_methodNamed B.named
  have hlocks := B.notSynchronized
  have hD := hD0.self (sz := s.heap.size)
  generalize hAe : va_A (CT cy a J I O R RO (LL ++ Y)) s.heap.size = A at hD ⊢
  have hA : ∀ q : Nat, s.heap.size ≤ q → A q := fun q h => by rw [← hAe]; exact Or.inr h
  have hS : va_S A s.heap s.heap [] := va_S.rf
  have hl := lv_entry ([.ref (a 19), .int x1]) (n := 4) (Nat.le_of_ble_eq_true rfl)
  rw [lg_entry_eq]
  generalize (lg_sl ([.ref (a 19), .int x1]) ++ List.replicate (4 - (lg_sl ([.ref (a 19), .int x1])).length) Slot.unset).toArray = ls at hl ⊢
  have hl : lv_has ls 4 [(0, .ref (a 19)), (1, .int x1)] := hl
  have lp5 : ∀ (n5 : Nat), ∀ (i : Nat) (m0_5 : Nat → Int32), (i ≤ 16) → (∀ p, p < i → m0_5 p = x1) → (16 - i) < n5 → ∀ (H : Heap) (locs : List Loc), va_P D vwCl (CT cy a J I O (va_up R 19 m0_5) RO (LL ++ Y)) H → va_D A (CT cy a J I O (va_up R 19 m0_5) RO (LL ++ Y)) → va_S A s.heap H locs → ∀ (ls : Array Slot), lv_has ls 4 [(0, .ref (a 19)), (1, .int x1), (2, .int (nI i)), (3, .int 16)] → W p l e (headSpec wsJ7_fill_53178 ({ frames := 0, cells := 0, slots := 0, locals := 0 })).room s m ([.ref (a 19), .int x1] : List Value).toArray below meth c H locs 0 0 (MQ below (va_Qv (fun (u : TS) => ∃ (w0 : Nat → Int32), ((∀ p, p < 16 → w0 p = x1)) ∧ u = (J, I, O, (va_up R 19 w0), RO, LL, Y)) (BW D A (CTu cy a)) A) ([.ref (a 19), .int x1] : List Value).toArray s 0 0 A) (F0 m 5 ls []) := by
    intro n5
    induction n5 with
    | zero => intro i m0_5 hi hfp hn; exact absurd hn (Nat.not_lt_zero _)
    | succ n5 ih5 =>
      intro i m0_5 hi hfp hn5 H locs hP hD hS ls hl
      refine lv_iload_n hx hb dJ7_fill_53178_5 rfl (lv_at hl 2 rfl) ?_
      refine lv_iload_n hx hb dJ7_fill_53178_6 rfl (lv_at hl 3 rfl) ?_
      refine lv_icmp_ge (tgt := 20) hx hb dJ7_fill_53178_7 (by decide) (fun c_1 => ?_) (fun c_1 => ?_)
      · have hie := ctr_ge (N := 16) (by decide) hi c_1
        exact wret_v hx hb hr hlocks (J, I, O, (va_up R 19 m0_5), RO, LL, Y) ⟨m0_5, (by rw [hie] at hfp; exact hfp), rfl⟩ hP hD hS dJ7_fill_53178_20
      · have hlt_i := ctr_lt (N := 16) (by decide) hi c_1
        refine lv_aload_n hx hb dJ7_fill_53178_10 rfl (lv_at hl 0 rfl) ?_
        refine lv_iload_n hx hb dJ7_fill_53178_11 rfl (lv_at hl 2 rfl) ?_
        refine lv_iload_n hx hb dJ7_fill_53178_12 rfl (lv_at hl 1 rfl) ?_
        refine va_iast hx hb hK hP hD hS 19 0 rfl rfl (vp_in_nI hlt_i (by decide)) dJ7_fill_53178_13 (fun H locs hP hD hS => ?_)
        have hP : va_P D vwCl (CT cy a J I O (va_up R 19 (upd m0_5 (nI i).toNatClampNeg x1)) RO (LL ++ Y)) H := hP
        have hD : va_D A (CT cy a J I O (va_up R 19 (upd m0_5 (nI i).toNatClampNeg x1)) RO (LL ++ Y)) := hD
        refine lv_iinc (v := nI (i + 1)) (lv' := [(2, .int (nI (i + 1))), (0, .ref (a 19)), (1, .int x1), (3, .int 16)]) hx hb dJ7_fill_53178_14 hl (k := 2) rfl (nI_1 _) (by decide) rfl (fun ls hl => ?_)
        refine lv_goto (tgt := 5) hx hb dJ7_fill_53178_17 (by decide) ?_
        exact ih5 (i + 1) (upd m0_5 (nI i).toNatClampNeg x1) hlt_i (fill_up (Nat.lt_trans hlt_i (by decide)) hfp) (lt_dec hlt_i hn5) _ _ hP hD hS ls (lv_sub hl [1, 2, 0, 3] rfl)
  have hP : va_P D vwCl (CT cy a J I O (va_up R 19 (R 19)) RO (LL ++ Y)) s.heap := hP
  have hD : va_D A (CT cy a J I O (va_up R 19 (R 19)) RO (LL ++ Y)) := hD
  refine lv_iconst (v := 0) hx hb dJ7_fill_53178_0 (by decide) ?_
  refine lv_istore_n (lv' := [(2, .int 0), (0, .ref (a 19)), (1, .int x1)]) hx hb dJ7_fill_53178_1 rfl hl (by decide) rfl (fun ls hl => ?_)
  refine lv_aload_n hx hb dJ7_fill_53178_2 rfl (lv_at hl 1 rfl) ?_
  refine va_alen hx hb hK hP 19 0 rfl rfl (v := 16) rfl dJ7_fill_53178_3 ?_
  refine lv_istore_n (lv' := [(3, .int 16), (2, .int 0), (0, .ref (a 19)), (1, .int x1)]) hx hb dJ7_fill_53178_4 rfl hl (by decide) rfl (fun ls hl => ?_)
  exact lp5 _ 0 (R 19) (by omega) (fun p h => absurd h (Nat.not_lt_zero _)) (Nat.lt_succ_self _) _ _ hP hD hS ls (lv_sub hl [2, 3, 1, 0] rfl)
