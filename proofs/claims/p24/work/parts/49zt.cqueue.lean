set_option maxHeartbeats 4000000 in
set_option maxRecDepth 100000 in
theorem x_X0_enqueue (l : Launch) (D : va_G) (cy : Nat → ClassId) (a : Nat → Nat) (sz : Nat) (J : Nat → Int64) (I : Nat → Int32) (O : Nat → Option Nat) (R : Nat → Nat → Int32) (RO : Nat → Nat → Option Nat) (LL : va_W) (Y : va_W) (x0 : Int32) (hx0 : vp_in x0 64) (hq : vp_in (I 259) 65) (hQ : Q64 (R 11)) : Met l yX0_enqueue wsX0_enqueue ({ frames := 1, cells := 0, slots := 0, locals := 22 }) (va_Pc [.ref (a 8), .int x0] (PW D cy sz (CT cy a J I O R RO (LL ++ Y)))) (va_Qv (fun (u : TS) => ∃ (w0 : Int64), ∃ (w1 : Int32), ∃ (w2 : Nat → Int32), ((vp_in w1 65) ∧ (Q64 w2) ∧ (ecR (J 262) (R 11) (I 259) w0 w2 w1 x0)) ∧ u = ((va_up J 262 w0), (va_up I 259 w1), O, (va_up R 11 w2), RO, LL, Y)) (BW D (va_A (CT cy a J I O R RO (LL ++ Y)) sz) (CTu cy a)) (va_A (CT cy a J I O R RO (LL ++ Y)) sz)) 0 0 (va_A (CT cy a J I O R RO (LL ++ Y)) sz) := by
  refine Met.ofW (cc := cX0_enqueue) (maxL := 2) (ret := none) (by decide) rfl ?_
  intro p e s m args below meth c s₁ B hml hv
  obtain ⟨rfl, rfl, hP, hK, hN, hD0⟩ := hv
  have hx := B.exec
  have hb := B.bytes
  have hr := B.returns
  have hts := atoms_spec (ws := wsX0_enqueue) B.pre
  have hown : s.vm.findClass RX0 = some m.cls := findClass_of_methodNamed B.named
  have hlocks := B.notSynchronized
  have hw0 := hts (.fieldLink RX0 45 "ParquetLayer$Covering" "queued" "I") (by decide +kernel)
  have hw1 := hts (.fieldLink RX0 16 "ParquetLayer$Covering" "queue" "[I") (by decide +kernel)
  have hw2 := hts (.fieldLink RX0 71 "ParquetLayer$Covering" "reached" "J") (by decide +kernel)
  have hi0 := ihX0_enqueue_0
  have hD := hD0.self (sz := s.heap.size)
  generalize hAe : va_A (CT cy a J I O R RO (LL ++ Y)) s.heap.size = A at hD ⊢
  have hA : ∀ q : Nat, s.heap.size ≤ q → A q := fun q h => by rw [← hAe]; exact Or.inr h
  have hS : va_S A s.heap s.heap [] := va_S.rf
  have hl := lv_entry ([.ref (a 8), .int x0]) (n := 2) (Nat.le_of_ble_eq_true rfl)
  rw [lg_entry_eq]
  generalize (lg_sl ([.ref (a 8), .int x0]) ++ List.replicate (2 - (lg_sl ([.ref (a 8), .int x0])).length) Slot.unset).toArray = ls at hl ⊢
  have hl : lv_has ls 2 [(0, .ref (a 8)), (1, .int x0)] := hl
  have hP : va_P D vwCl (CT cy a (va_up J 262 (J 262)) (va_up I 259 (I 259)) O (va_up R 11 (R 11)) RO (LL ++ Y)) s.heap := hP
  have hD : va_D A (CT cy a (va_up J 262 (J 262)) (va_up I 259 (I 259)) O (va_up R 11 (R 11)) RO (LL ++ Y)) := hD
  refine lv_aload_n hx hb dX0_enqueue_0 rfl (lv_at hl 0 rfl) ?_
  refine va_get (D := D) (ci := 0) (v := .int (I 259)) (C := RX0) (T := TX0) (N := 7) hx hb hts hi0 hown hK hP 8 rfl rfl 3 (by decide) hw0 (fun _ h9 => h9) rfl dX0_enqueue_1 ?_
  refine lv_aload_n hx hb dX0_enqueue_4 rfl (lv_at hl 0 rfl) ?_
  refine va_get (D := D) (ci := 0) (v := .ref (a 11)) (C := RX0) (T := TX0) (N := 7) hx hb hts hi0 hown hK hP 8 rfl rfl 2 (by decide) hw1 (fun _ h9 => h9) rfl dX0_enqueue_5 ?_
  refine va_alen hx hb hK hP 11 0 rfl rfl (v := 64) rfl dX0_enqueue_8 ?_
  refine lv_icmp_ge (tgt := 55) hx hb dX0_enqueue_9 (by decide) (fun c_1 => ?_) (fun c_1 => ?_)
  · exact wret_v hx hb hr hlocks ((va_up J 262 (J 262)), (va_up I 259 (I 259)), O, (va_up R 11 (R 11)), RO, LL, Y) ⟨(J 262), (I 259), (R 11), ⟨hq, hQ, (Or.inr ⟨Or.inl c_1, rfl, rfl, rfl⟩)⟩, rfl⟩ hP hD hS dX0_enqueue_55
  · refine lv_aload_n hx hb dX0_enqueue_12 rfl (lv_at hl 0 rfl) ?_
    refine va_get (D := D) (ci := 0) (v := .long (J 262)) (C := RX0) (T := TX0) (N := 7) hx hb hts hi0 hown hK hP 8 rfl rfl 6 (by decide) hw2 (fun _ h9 => h9) rfl dX0_enqueue_13 ?_
    refine lv_iload_n hx hb dX0_enqueue_16 rfl (lv_at hl 1 rfl) ?_
    refine kS_i (As := [.long (J 262), .int x0]) (rest := []) ⟨hx, hb, hml, hown, hts⟩ (c_X1_holds l (J 262) x0) (va_cwS 2 hts gX0_enqueue_X1_holds rfl rfl rfl (by decide +kernel) ⟨Nat.le_of_ble_eq_true rfl, Nat.le_of_ble_eq_true rfl⟩) rfl hl.1 rfl (Nat.le_of_ble_eq_true rfl) dX0_enqueue_17 ⟨Nat.le_of_ble_eq_true rfl, Nat.le_of_ble_eq_true rfl⟩ ?_
    refine lv_if_ne (tgt := 55) hx hb dX0_enqueue_20 (by decide) (fun c_2 => ?_) (fun c_2 => ?_)
    · replace c_2 := bI_t c_2
      exact wret_v hx hb hr hlocks ((va_up J 262 (J 262)), (va_up I 259 (I 259)), O, (va_up R 11 (R 11)), RO, LL, Y) ⟨(J 262), (I 259), (R 11), ⟨hq, hQ, (Or.inr ⟨Or.inr c_2, rfl, rfl, rfl⟩)⟩, rfl⟩ hP hD hS dX0_enqueue_55
    · replace c_2 := bI_f c_2
      refine lv_aload_n hx hb dX0_enqueue_23 rfl (lv_at hl 0 rfl) ?_
      refine va_get (D := D) (ci := 0) (v := .ref (a 11)) (C := RX0) (T := TX0) (N := 7) hx hb hts hi0 hown hK hP 8 rfl rfl 2 (by decide) hw1 (fun _ h9 => h9) rfl dX0_enqueue_24 ?_
      refine lv_aload_n hx hb dX0_enqueue_27 rfl (lv_at hl 0 rfl) ?_
      refine va_get (D := D) (ci := 0) (v := .int (I 259)) (C := RX0) (T := TX0) (N := 7) hx hb hts hi0 hown hK hP 8 rfl rfl 3 (by decide) hw0 (fun _ h9 => h9) rfl dX0_enqueue_28 ?_
      refine lv_iload_n hx hb dX0_enqueue_31 rfl (lv_at hl 1 rfl) ?_
      refine va_iast hx hb hK hP hD hS 11 0 rfl rfl (q64 hq c_1) dX0_enqueue_32 (fun H locs hP hD hS => ?_)
      have hP : va_P D vwCl (CT cy a (va_up J 262 (J 262)) (va_up I 259 (I 259)) O (va_up R 11 (upd (R 11) (I 259).toNatClampNeg x0)) RO (LL ++ Y)) H := hP
      have hD : va_D A (CT cy a (va_up J 262 (J 262)) (va_up I 259 (I 259)) O (va_up R 11 (upd (R 11) (I 259).toNatClampNeg x0)) RO (LL ++ Y)) := hD
      refine lv_aload_n hx hb dX0_enqueue_33 rfl (lv_at hl 0 rfl) ?_
      refine lv_dup hx hb dX0_enqueue_34 rfl ?_
      refine va_get (D := D) (ci := 0) (v := .int (I 259)) (C := RX0) (T := TX0) (N := 7) hx hb hts hi0 hown hK hP 8 rfl rfl 3 (by decide) hw0 (fun _ h9 => h9) rfl dX0_enqueue_35 ?_
      refine lv_iconst (v := 1) hx hb dX0_enqueue_38 (by decide) ?_
      refine lv_iadd hx hb dX0_enqueue_39 ?_
      refine va_put (D := D) (ci := 0) (v := .int ((I 259) + 1)) (ty := .int) (C := RX0) (T := TX0) (N := 7) hx hb hts hi0 tyX0 tyX0_ok nmX0 hown hK hP hD hS 8 rfl rfl 3 (by decide) hw0 (fun _ h9 => h9) rfl (by decide +kernel) rfl rfl (Nat.le_of_ble_eq_true rfl) dX0_enqueue_40 (fun H locs hP hD hS => ?_)
      have hP : va_P D vwCl (CT cy a (va_up J 262 (J 262)) (va_up I 259 ((I 259) + 1)) O (va_up R 11 (upd (R 11) (I 259).toNatClampNeg x0)) RO (LL ++ Y)) H := hP
      have hD : va_D A (CT cy a (va_up J 262 (J 262)) (va_up I 259 ((I 259) + 1)) O (va_up R 11 (upd (R 11) (I 259).toNatClampNeg x0)) RO (LL ++ Y)) := hD
      refine lv_aload_n hx hb dX0_enqueue_43 rfl (lv_at hl 0 rfl) ?_
      refine lv_dup hx hb dX0_enqueue_44 rfl ?_
      refine va_get (D := D) (ci := 0) (v := .long (J 262)) (C := RX0) (T := TX0) (N := 7) hx hb hts hi0 hown hK hP 8 rfl rfl 6 (by decide) hw2 (fun _ h9 => h9) rfl dX0_enqueue_45 ?_
      refine lv_lconst (v := 1) hx hb dX0_enqueue_48 (by decide) ?_
      refine lv_iload_n hx hb dX0_enqueue_49 rfl (lv_at hl 1 rfl) ?_
      refine lv_lshl (v := (1 : Int64) <<< ((x0 : Int32).toInt64 &&& 63)) hx hb dX0_enqueue_50 rfl ?_
      refine lv_lor hx hb dX0_enqueue_51 ?_
      refine va_put (D := D) (ci := 0) (v := .long ((J 262) ||| ((1 : Int64) <<< ((x0 : Int32).toInt64 &&& 63)))) (ty := .long) (C := RX0) (T := TX0) (N := 7) hx hb hts hi0 tyX0 tyX0_ok nmX0 hown hK hP hD hS 8 rfl rfl 6 (by decide) hw2 (fun _ h9 => h9) rfl (by decide +kernel) rfl rfl (Nat.le_of_ble_eq_true rfl) dX0_enqueue_52 (fun H locs hP hD hS => ?_)
      have hP : va_P D vwCl (CT cy a (va_up J 262 ((J 262) ||| ((1 : Int64) <<< ((x0 : Int32).toInt64 &&& 63)))) (va_up I 259 ((I 259) + 1)) O (va_up R 11 (upd (R 11) (I 259).toNatClampNeg x0)) RO (LL ++ Y)) H := hP
      have hD : va_D A (CT cy a (va_up J 262 ((J 262) ||| ((1 : Int64) <<< ((x0 : Int32).toInt64 &&& 63)))) (va_up I 259 ((I 259) + 1)) O (va_up R 11 (upd (R 11) (I 259).toNatClampNeg x0)) RO (LL ++ Y)) := hD
      exact wret_v hx hb hr hlocks ((va_up J 262 ((J 262) ||| ((1 : Int64) <<< ((x0 : Int32).toInt64 &&& 63)))), (va_up I 259 ((I 259) + 1)), O, (va_up R 11 (upd (R 11) (I 259).toNatClampNeg x0)), RO, LL, Y) ⟨((J 262) ||| ((1 : Int64) <<< ((x0 : Int32).toInt64 &&& 63))), ((I 259) + 1), (upd (R 11) (I 259).toNatClampNeg x0), ⟨(q65 (q64 hq c_1)), (Q64_up hQ hx0), (Or.inl ⟨c_1, c_2, rfl, rfl, rfl⟩)⟩, rfl⟩ hP hD hS dX0_enqueue_55
set_option maxHeartbeats 4000000 in
set_option maxRecDepth 100000 in
theorem x_X0_queueLeft (l : Launch) (D : va_G) (cy : Nat → ClassId) (a : Nat → Nat) (sz : Nat) (J : Nat → Int64) (I : Nat → Int32) (O : Nat → Option Nat) (R : Nat → Nat → Int32) (RO : Nat → Nat → Option Nat) (LL : va_W) (Y : va_W) (x0 : Int64) (hQ : Q64 (R 11)) (fl9 : Int64) (hfl9 : x0 = fl9 &&& (-6172840429334713771)) : Met l yX0_queueLeft wsX0_queueLeft ({ frames := 2, cells := 0, slots := 0, locals := 43 }) (va_Pc [.ref (a 8), .long x0] (PW D cy sz (CT cy a J I O R RO (LL ++ Y)))) (va_Qv (fun (u : TS) => ∃ (w0 : Int64), ∃ (w1 : Int64), ∃ (w2 : Int32), ∃ (w3 : Nat → Int32), ((vp_in w2 65) ∧ (Q64 w3) ∧ (qB fl9 (R 9) w1 w3 w2 64) ∧ (w0 = w1)) ∧ u = ((va_up (va_up J 261 w0) 262 w1), (va_up I 259 w2), O, (va_up R 11 w3), RO, LL, Y)) (BW D (va_A (CT cy a J I O R RO (LL ++ Y)) sz) (CTu cy a)) (va_A (CT cy a J I O R RO (LL ++ Y)) sz)) 0 0 (va_A (CT cy a J I O R RO (LL ++ Y)) sz) := by
  refine Met.ofW (cc := cX0_queueLeft) (maxL := 4) (ret := none) (by decide) rfl ?_
  intro p e s m args below meth c s₁ B hml hv
  obtain ⟨rfl, rfl, hP, hK, hN, hD0⟩ := hv
  have hx := B.exec
  have hb := B.bytes
  have hr := B.returns
  have hts := atoms_spec (ws := wsX0_queueLeft) B.pre
  have hown : s.vm.findClass RX0 = some m.cls := findClass_of_methodNamed B.named
  have hlocks := B.notSynchronized
  have hw0 := hts (.fieldLink RX0 71 "ParquetLayer$Covering" "reached" "J") (by decide +kernel)
  have hw1 := hts (.fieldLink RX0 74 "ParquetLayer$Covering" "left" "J") (by decide +kernel)
  have hw2 := hts (.fieldLink RX0 7 "ParquetLayer$Covering" "mate" "[I") (by decide +kernel)
  have hw3 := hts (.fieldLink RX0 45 "ParquetLayer$Covering" "queued" "I") (by decide +kernel)
  have hi0 := ihX0_queueLeft_0
  have hD := hD0.self (sz := s.heap.size)
  generalize hAe : va_A (CT cy a J I O R RO (LL ++ Y)) s.heap.size = A at hD ⊢
  have hA : ∀ q : Nat, s.heap.size ≤ q → A q := fun q h => by rw [← hAe]; exact Or.inr h
  have hS : va_S A s.heap s.heap [] := va_S.rf
  have hl := lv_entry ([.ref (a 8), .long x0]) (n := 4) (Nat.le_of_ble_eq_true rfl)
  rw [lg_entry_eq]
  generalize (lg_sl ([.ref (a 8), .long x0]) ++ List.replicate (4 - (lg_sl ([.ref (a 8), .long x0])).length) Slot.unset).toArray = ls at hl ⊢
  have hl : lv_has ls 4 [(0, .ref (a 8)), (1, .long x0)] := hl
  have lp12 : ∀ (n12 : Nat), ∀ (i : Nat) (m0_12 : Int64) (m1_12 : Int64) (m2_12 : Int32) (m3_12 : Nat → Int32), (i ≤ 64) → (vp_in m2_12 65) → (Q64 m3_12) → (qB fl9 (R 9) m1_12 m3_12 m2_12 i) → (64 - i) < n12 → ∀ (H : Heap) (locs : List Loc), va_P D vwCl (CT cy a (va_up (va_up J 261 m0_12) 262 m1_12) (va_up I 259 m2_12) O (va_up R 11 m3_12) RO (LL ++ Y)) H → va_D A (CT cy a (va_up (va_up J 261 m0_12) 262 m1_12) (va_up I 259 m2_12) O (va_up R 11 m3_12) RO (LL ++ Y)) → va_S A s.heap H locs → ∀ (ls : Array Slot), lv_has ls 4 [(0, .ref (a 8)), (1, .long x0), (3, .int (nI i))] → W p l e (headSpec wsX0_queueLeft ({ frames := 2, cells := 0, slots := 0, locals := 43 })).room s m ([.ref (a 8), .long x0] : List Value).toArray below meth c H locs 0 0 (MQ below (va_Qv (fun (u : TS) => ∃ (w0 : Int64), ∃ (w1 : Int64), ∃ (w2 : Int32), ∃ (w3 : Nat → Int32), ((vp_in w2 65) ∧ (Q64 w3) ∧ (qB fl9 (R 9) w1 w3 w2 64) ∧ (w0 = w1)) ∧ u = ((va_up (va_up J 261 w0) 262 w1), (va_up I 259 w2), O, (va_up R 11 w3), RO, LL, Y)) (BW D A (CTu cy a)) A) ([.ref (a 8), .long x0] : List Value).toArray s 0 0 A) (F0 m 12 ls []) := by
    intro n12
    induction n12 with
    | zero => intro i m0_12 m1_12 m2_12 m3_12 hi hq hQ hqb hn; exact absurd hn (Nat.not_lt_zero _)
    | succ n12 ih12 =>
      intro i m0_12 m1_12 m2_12 m3_12 hi hq hQ hqb hn12 H locs hP hD hS ls hl
      refine lv_iload_n hx hb dX0_queueLeft_12 rfl (lv_at hl 2 rfl) ?_
      refine lv_bipush (v := 64) hx hb dX0_queueLeft_13 (by decide) ?_
      refine lv_icmp_ge (tgt := 47) hx hb dX0_queueLeft_15 (by decide) (fun c_1 => ?_) (fun c_1 => ?_)
      · have hie_i := ctr_ge (N := 64) (by decide) hi c_1
        refine lv_aload_n hx hb dX0_queueLeft_47 rfl (lv_at hl 0 rfl) ?_
        refine lv_aload_n hx hb dX0_queueLeft_48 rfl (lv_at hl 0 rfl) ?_
        refine va_get (D := D) (ci := 0) (v := .long m1_12) (C := RX0) (T := TX0) (N := 7) hx hb hts hi0 hown hK hP 8 rfl rfl 6 (by decide) hw0 (fun _ h9 => h9) rfl dX0_queueLeft_49 ?_
        refine va_put (D := D) (ci := 0) (v := .long m1_12) (ty := .long) (C := RX0) (T := TX0) (N := 7) hx hb hts hi0 tyX0 tyX0_ok nmX0 hown hK hP hD hS 8 rfl rfl 5 (by decide) hw1 (fun _ h9 => h9) rfl (by decide +kernel) rfl rfl (Nat.le_of_ble_eq_true rfl) dX0_queueLeft_52 (fun H locs hP hD hS => ?_)
        have hP : va_P D vwCl (CT cy a (va_up (va_up J 261 m1_12) 262 m1_12) (va_up I 259 m2_12) O (va_up R 11 m3_12) RO (LL ++ Y)) H := hP
        have hD : va_D A (CT cy a (va_up (va_up J 261 m1_12) 262 m1_12) (va_up I 259 m2_12) O (va_up R 11 m3_12) RO (LL ++ Y)) := hD
        exact wret_v hx hb hr hlocks ((va_up (va_up J 261 m1_12) 262 m1_12), (va_up I 259 m2_12), O, (va_up R 11 m3_12), RO, LL, Y) ⟨m1_12, m1_12, m2_12, m3_12, ⟨hq, hQ, (by rw [hie_i] at hqb; exact hqb), rfl⟩, rfl⟩ hP hD hS dX0_queueLeft_55
      · have hlt_i := ctr_lt (N := 64) (by decide) hi c_1
        refine lv_lload_n hx hb dX0_queueLeft_18 rfl (lv_at hl 1 rfl) ?_
        refine lv_iload_n hx hb dX0_queueLeft_19 rfl (lv_at hl 2 rfl) ?_
        refine kS_i (As := [.long x0, .int (nI i)]) (rest := []) ⟨hx, hb, hml, hown, hts⟩ (c_X1_holds l x0 (nI i)) (va_cwS 2 hts gX0_queueLeft_X1_holds rfl rfl rfl (by decide +kernel) ⟨Nat.le_of_ble_eq_true rfl, Nat.le_of_ble_eq_true rfl⟩) rfl hl.1 rfl (Nat.le_of_ble_eq_true rfl) dX0_queueLeft_20 ⟨Nat.le_of_ble_eq_true rfl, Nat.le_of_ble_eq_true rfl⟩ ?_
        refine lv_if_eq (tgt := 41) hx hb dX0_queueLeft_23 (by decide) (fun c_2 => ?_) (fun c_2 => ?_)
        · replace c_2 := bI_f c_2
          refine lv_iinc (v := nI (i + 1)) (lv' := [(3, .int (nI (i + 1))), (0, .ref (a 8)), (1, .long x0)]) hx hb dX0_queueLeft_41 hl (k := 2) rfl (nI_1 _) (by decide) rfl (fun ls hl => ?_)
          refine lv_goto (tgt := 12) hx hb dX0_queueLeft_44 (by decide) ?_
          exact ih12 (i + 1) m0_12 m1_12 m2_12 m3_12 hlt_i hq hQ (qB_n hqb (qB_1 hlt_i (by rw [← hfl9]; exact c_2))) (lt_dec hlt_i hn12) _ _ hP hD hS ls (lv_sub hl [1, 2, 0] rfl)
        · replace c_2 := bI_t c_2
          refine lv_aload_n hx hb dX0_queueLeft_26 rfl (lv_at hl 0 rfl) ?_
          refine va_get (D := D) (ci := 0) (v := .ref (a 9)) (C := RX0) (T := TX0) (N := 7) hx hb hts hi0 hown hK hP 8 rfl rfl 0 (by decide) hw2 (fun _ h9 => h9) rfl dX0_queueLeft_27 ?_
          refine lv_iload_n hx hb dX0_queueLeft_30 rfl (lv_at hl 2 rfl) ?_
          refine va_iald hx hb hK hP 9 0 rfl rfl (vp_in_nI hlt_i (by decide)) dX0_queueLeft_31 ?_
          refine lv_iconst (v := (-1)) hx hb dX0_queueLeft_32 (by decide) ?_
          refine lv_icmp_ne (tgt := 41) hx hb dX0_queueLeft_33 (by decide) (fun c_3 => ?_) (fun c_3 => ?_)
          · refine lv_iinc (v := nI (i + 1)) (lv' := [(3, .int (nI (i + 1))), (0, .ref (a 8)), (1, .long x0)]) hx hb dX0_queueLeft_41 hl (k := 2) rfl (nI_1 _) (by decide) rfl (fun ls hl => ?_)
            refine lv_goto (tgt := 12) hx hb dX0_queueLeft_44 (by decide) ?_
            exact ih12 (i + 1) m0_12 m1_12 m2_12 m3_12 hlt_i hq hQ (qB_n hqb (qB_2 hlt_i c_3)) (lt_dec hlt_i hn12) _ _ hP hD hS ls (lv_sub hl [1, 2, 0] rfl)
          · refine lv_aload_n hx hb dX0_queueLeft_36 rfl (lv_at hl 0 rfl) ?_
            refine lv_iload_n hx hb dX0_queueLeft_37 rfl (lv_at hl 2 rfl) ?_
            refine kM_v (As := [.int (nI i)]) (rest := []) (q0 := 8) ⟨hx, hb, hml, hown, hts⟩ (x_X0_enqueue l D cy a _ (va_up (va_up J 261 m0_12) 262 m1_12) (va_up I 259 m2_12) O (va_up R 11 m3_12) RO LL Y (nI i) (vp_in_nI hlt_i (by decide)) hq hQ  ) (cwV 1 hts gX0_queueLeft_X0_enqueue rfl rfl rfl (by decide +kernel) ⟨Nat.le_of_ble_eq_true rfl, Nat.le_of_ble_eq_true rfl⟩) hK hN hP hD hS hA rfl rfl rfl hl.1 rfl (Nat.le_of_ble_eq_true rfl) dX0_queueLeft_38 ⟨Nat.le_of_ble_eq_true rfl, Nat.le_of_ble_eq_true rfl⟩ (fun u H locs hw hP hD hS => ?_)
            obtain ⟨w_5, w_6, w_7, ⟨hp_8, hp_9, hp_10⟩, rfl⟩ := hw
            have hP : va_P D vwCl (CT cy a (va_up (va_up J 261 m0_12) 262 w_5) (va_up I 259 w_6) O (va_up R 11 w_7) RO (LL ++ Y)) H := hP
            have hD : va_D A (CT cy a (va_up (va_up J 261 m0_12) 262 w_5) (va_up I 259 w_6) O (va_up R 11 w_7) RO (LL ++ Y)) := hD
            refine lv_iinc (v := nI (i + 1)) (lv' := [(3, .int (nI (i + 1))), (0, .ref (a 8)), (1, .long x0)]) hx hb dX0_queueLeft_41 hl (k := 2) rfl (nI_1 _) (by decide) rfl (fun ls hl => ?_)
            refine lv_goto (tgt := 12) hx hb dX0_queueLeft_44 (by decide) ?_
            exact ih12 (i + 1) m0_12 w_5 w_6 w_7 hlt_i hp_8 hp_9 (qB_y hlt_i hqb (qB_d hlt_i (by rw [← hfl9]; exact c_2)) c_3 hp_10) (lt_dec hlt_i hn12) _ _ hP hD hS ls (lv_sub hl [1, 2, 0] rfl)
  have hP : va_P D vwCl (CT cy a (va_up (va_up J 261 (J 261)) 262 (J 262)) (va_up I 259 (I 259)) O (va_up R 11 (R 11)) RO (LL ++ Y)) s.heap := hP
  have hD : va_D A (CT cy a (va_up (va_up J 261 (J 261)) 262 (J 262)) (va_up I 259 (I 259)) O (va_up R 11 (R 11)) RO (LL ++ Y)) := hD
  refine lv_aload_n hx hb dX0_queueLeft_0 rfl (lv_at hl 0 rfl) ?_
  refine lv_iconst (v := 0) hx hb dX0_queueLeft_1 (by decide) ?_
  refine va_put (D := D) (ci := 0) (v := .int 0) (ty := .int) (C := RX0) (T := TX0) (N := 7) hx hb hts hi0 tyX0 tyX0_ok nmX0 hown hK hP hD hS 8 rfl rfl 3 (by decide) hw3 (fun _ h9 => h9) rfl (by decide +kernel) rfl rfl (Nat.le_of_ble_eq_true rfl) dX0_queueLeft_2 (fun H locs hP hD hS => ?_)
  have hP : va_P D vwCl (CT cy a (va_up (va_up J 261 (J 261)) 262 (J 262)) (va_up I 259 0) O (va_up R 11 (R 11)) RO (LL ++ Y)) H := hP
  have hD : va_D A (CT cy a (va_up (va_up J 261 (J 261)) 262 (J 262)) (va_up I 259 0) O (va_up R 11 (R 11)) RO (LL ++ Y)) := hD
  refine lv_aload_n hx hb dX0_queueLeft_5 rfl (lv_at hl 0 rfl) ?_
  refine lv_lconst (v := 0) hx hb dX0_queueLeft_6 (by decide) ?_
  refine va_put (D := D) (ci := 0) (v := .long 0) (ty := .long) (C := RX0) (T := TX0) (N := 7) hx hb hts hi0 tyX0 tyX0_ok nmX0 hown hK hP hD hS 8 rfl rfl 6 (by decide) hw0 (fun _ h9 => h9) rfl (by decide +kernel) rfl rfl (Nat.le_of_ble_eq_true rfl) dX0_queueLeft_7 (fun H locs hP hD hS => ?_)
  have hP : va_P D vwCl (CT cy a (va_up (va_up J 261 (J 261)) 262 0) (va_up I 259 0) O (va_up R 11 (R 11)) RO (LL ++ Y)) H := hP
  have hD : va_D A (CT cy a (va_up (va_up J 261 (J 261)) 262 0) (va_up I 259 0) O (va_up R 11 (R 11)) RO (LL ++ Y)) := hD
  refine lv_iconst (v := 0) hx hb dX0_queueLeft_10 (by decide) ?_
  refine lv_istore_n (lv' := [(3, .int 0), (0, .ref (a 8)), (1, .long x0)]) hx hb dX0_queueLeft_11 rfl hl (by decide) rfl (fun ls hl => ?_)
  exact lp12 _ 0 (J 261) 0 0 (R 11) (Nat.zero_le _) z65 hQ qB_0 (Nat.lt_succ_self _) _ _ hP hD hS ls (lv_sub hl [1, 2, 0] rfl)
