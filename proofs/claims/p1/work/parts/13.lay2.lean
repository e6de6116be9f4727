theorem dX4_know_7 : decode cX4_know 7 = .ok (.aload_n 0, 1) := by decide +kernel
theorem dX4_know_8 : decode cX4_know 8 = .ok (.getfield 20, 3) := by decide +kernel
theorem dX4_know_11 : decode cX4_know 11 = .ok (.lload_n 1, 1) := by decide +kernel
theorem dX4_know_12 : decode cX4_know 12 = .ok (.lcmp, 1) := by decide +kernel
theorem dX4_know_13 : decode cX4_know 13 = .ok (.ifCond .ne 4, 3) := by decide +kernel
theorem dX4_know_16 : decode cX4_know 16 = .ok (.return_, 1) := by decide +kernel
set_option maxHeartbeats 4000000 in
set_option maxRecDepth 100000 in
theorem c_know1 (l : Launch) (D : va_G) (cy : Nat → ClassId) (a : Nat → Nat) (sz : Nat) (RO : Nat → Nat → Option Nat)  (W0 : Nat → Int32) : Met l yX4_know wsX4_know ({ frames := 0, cells := 0, slots := 0, locals := 0 }) (va_Pc [.ref (a 20), .long 0] (PW D cy sz (CL cy a (fun _ => 0) (va_up (fun _ => 0) 643 1) (va_up (va_up (fun _ => none) 100 (some (a 4))) 5 (some (a 20))) (va_up (fun _ _ => 0) 21 W0) RO))) (va_Qv (fun (u : CS) => u = ((fun _ => 0), (va_up (fun _ => 0) 643 1), (va_up (va_up (fun _ => none) 100 (some (a 4))) 5 (some (a 20))), (va_up (fun _ _ => 0) 21 W0), RO)) (BW D (va_A (CL cy a (fun _ => 0) (va_up (fun _ => 0) 643 1) (va_up (va_up (fun _ => none) 100 (some (a 4))) 5 (some (a 20))) (va_up (fun _ _ => 0) 21 W0) RO) sz) (CLu cy a)) (va_A (CL cy a (fun _ => 0) (va_up (fun _ => 0) 643 1) (va_up (va_up (fun _ => none) 100 (some (a 4))) 5 (some (a 20))) (va_up (fun _ _ => 0) 21 W0) RO) sz)) 0 0 (va_A (CL cy a (fun _ => 0) (va_up (fun _ => 0) 643 1) (va_up (va_up (fun _ => none) 100 (some (a 4))) 5 (some (a 20))) (va_up (fun _ _ => 0) 21 W0) RO) sz) := by
  refine Met.ofW (cc := cX4_know) (maxL := 4) (ret := none) (by decide) rfl ?_
  intro p e s m args below meth c s₁ B hml hv
  obtain ⟨rfl, rfl, hP, hK, hN, hD0⟩ := hv
  have hx := B.exec
  have hb := B.bytes
  have hr := B.returns
  have hts := atoms_spec (ws := wsX4_know) B.pre
  have hown : s.vm.findClass RX4 = some m.cls := findClass_of_methodNamed B.named
  have hlocks := B.notSynchronized
  have hw0 := hts (.fieldLink RX4 16 "ParquetLayer$Layings" "known" "Z") (by decide +kernel)
  have hw1 := hts (.fieldLink RX4 20 "ParquetLayer$Layings" "free" "J") (by decide +kernel)
  have hi4 := ihX4_know_4
  have hD := hD0.self (sz := s.heap.size)
  generalize hAe : va_A (CL cy a (fun _ => 0) (va_up (fun _ => 0) 643 1) (va_up (va_up (fun _ => none) 100 (some (a 4))) 5 (some (a 20))) (va_up (fun _ _ => 0) 21 W0) RO) s.heap.size = A at hD ⊢
  have hA : ∀ q : Nat, s.heap.size ≤ q → A q := fun q h => by rw [← hAe]; exact Or.inr h
  have hS : va_S A s.heap s.heap [] := va_S.rf
  have hl := lv_entry ([.ref (a 20), .long 0]) (n := 4) (Nat.le_of_ble_eq_true rfl)
  rw [lg_entry_eq]
  generalize (lg_sl ([.ref (a 20), .long 0]) ++ List.replicate (4 - (lg_sl ([.ref (a 20), .long 0])).length) Slot.unset).toArray = ls at hl ⊢
  have hl : lv_has ls 4 [(0, .ref (a 20)), (1, .long 0)] := hl
  refine lv_aload_n hx hb dX4_know_0 rfl (lv_at hl 0 rfl) ?_
  refine va_get (D := D) (ci := 3) (v := .int 1) (C := RX4) (T := TX4) (N := 4) hx hb hts hi4 hown hK hP 20 rfl rfl 3 (by decide) hw0 (fun _ h9 => h9) rfl dX4_know_1 ?_
  refine lv_if_eq (tgt := 17) hx hb dX4_know_4 (by decide) (fun c_1 => absurd c_1 (by decide)) (fun c_1 => ?_)
  refine lv_aload_n hx hb dX4_know_7 rfl (lv_at hl 0 rfl) ?_
  refine va_get (D := D) (ci := 3) (v := .long 0) (C := RX4) (T := TX4) (N := 4) hx hb hts hi4 hown hK hP 20 rfl rfl 2 (by decide) hw1 (fun _ h9 => h9) rfl dX4_know_8 ?_
  refine lv_lload_n hx hb dX4_know_11 rfl (lv_at hl 1 rfl) ?_
  refine W.lcmp hx hb dX4_know_12 ?_
  refine wtop_i (y := 0) (by decide) ?_
  refine lv_if_ne (tgt := 17) hx hb dX4_know_13 (by decide) (fun c_2 => absurd (by decide) c_2) (fun c_2 => ?_)
  exact wret_v hx hb hr hlocks ((fun _ => 0), (va_up (fun _ => 0) 643 1), (va_up (va_up (fun _ => none) 100 (some (a 4))) 5 (some (a 20))), (va_up (fun _ _ => 0) 21 W0), RO) rfl hP hD hS dX4_know_16
theorem dX4_total_0 : decode cX4_total 0 = .ok (.aload_n 0, 1) := by decide +kernel
theorem dX4_total_1 : decode cX4_total 1 = .ok (.getfield 9, 3) := by decide +kernel
theorem dX4_total_4 : decode cX4_total 4 = .ok (.iconst 0, 1) := by decide +kernel
theorem dX4_total_5 : decode cX4_total 5 = .ok (.iaload, 1) := by decide +kernel
theorem dX4_total_6 : decode cX4_total 6 = .ok (.ireturn, 1) := by decide +kernel
set_option maxRecDepth 20000 in
theorem ihX4_total_4 : ∀ w ∈ u_ws RX4 TX4 4, w ∈ wsX4_total := by decide +kernel
set_option maxHeartbeats 4000000 in
set_option maxRecDepth 100000 in
theorem c_X4_total (l : Launch) (D : va_G) (cy : Nat → ClassId) (a : Nat → Nat) (sz : Nat) (RO : Nat → Nat → Option Nat)  (W0 : Nat → Int32) : Met l yX4_total wsX4_total ({ frames := 0, cells := 0, slots := 0, locals := 0 }) (va_Pc [.ref (a 20)] (PW D cy sz (CL cy a (fun _ => 0) (va_up (fun _ => 0) 643 1) (va_up (va_up (fun _ => none) 100 (some (a 4))) 5 (some (a 20))) (va_up (fun _ _ => 0) 21 W0) RO))) (vp_Si (fun r => r = W0 (0 : Int32).toNatClampNeg)) 0 0 (fun _ => False) := by
  refine Met.ofW (cc := cX4_total) (maxL := 1) (ret := (some .int)) (by decide) rfl ?_
  intro p e s m args below meth c s₁ B hml hv
  obtain ⟨rfl, rfl, hP, hK, hN, hD0⟩ := hv
  have hx := B.exec
  have hb := B.bytes
  have hr := B.returns
  have hts := atoms_spec (ws := wsX4_total) B.pre
  have hown : s.vm.findClass RX4 = some m.cls := findClass_of_methodNamed B.named
  have hlocks := B.notSynchronized
  have hw0 := hts (.fieldLink RX4 9 "ParquetLayer$Layings" "ways" "[I") (by decide +kernel)
  have hi4 := ihX4_total_4
  have hD := hD0
  have hl := lv_entry ([.ref (a 20)]) (n := 1) (Nat.le_of_ble_eq_true rfl)
  rw [lg_entry_eq]
  generalize (lg_sl ([.ref (a 20)]) ++ List.replicate (1 - (lg_sl ([.ref (a 20)])).length) Slot.unset).toArray = ls at hl ⊢
  have hl : lv_has ls 1 [(0, .ref (a 20))] := hl
  refine lv_aload_n hx hb dX4_total_0 rfl (lv_at hl 0 rfl) ?_
  refine va_get (D := D) (ci := 3) (v := .ref (a 21)) (C := RX4) (T := TX4) (N := 4) hx hb hts hi4 hown hK hP 20 rfl rfl 0 (by decide) hw0 (fun _ h9 => h9) rfl dX4_total_1 ?_
  refine lv_iconst (v := 0) hx hb dX4_total_4 (by decide) ?_
  refine va_iald hx hb hK hP 21 0 rfl rfl (by unfold vp_in; decide) dX4_total_5 ?_
  exact pret_i hx hb hr hlocks rfl dX4_total_6
theorem dX4_beginsStone_0 : decode cX4_beginsStone 0 = .ok (.aload_n 0, 1) := by decide +kernel
theorem dX4_beginsStone_1 : decode cX4_beginsStone 1 = .ok (.getfield 20, 3) := by decide +kernel
theorem dX4_beginsStone_4 : decode cX4_beginsStone 4 = .ok (.iload_n 1, 1) := by decide +kernel
set_option maxRecDepth 20000 in
theorem ggX4_beginsStone_X1_holds : GoodIn wsX4_beginsStone wsX1_holds := goodIn_r _ [5] (by decide +kernel) (by decide +kernel)
set_option maxRecDepth 20000 in
theorem gX4_beginsStone_X1_holds : GoodIn wsX4_beginsStone (va_wsS RX4 37 yX1_holds wsX1_holds) := goodIn_app (goodIn_of _ (by decide +kernel)) ggX4_beginsStone_X1_holds
theorem dX4_beginsStone_5 : decode cX4_beginsStone 5 = .ok (.invokestatic 37, 3) := by decide +kernel
theorem dX4_beginsStone_8 : decode cX4_beginsStone 8 = .ok (.ifCond .eq 13, 3) := by decide +kernel
theorem dX4_beginsStone_21 : decode cX4_beginsStone 21 = .ok (.iconst 0, 1) := by decide +kernel
theorem dX4_beginsStone_22 : decode cX4_beginsStone 22 = .ok (.ireturn, 1) := by decide +kernel
set_option maxRecDepth 20000 in
theorem ihX4_beginsStone_4 : ∀ w ∈ u_ws RX4 TX4 4, w ∈ wsX4_beginsStone := by decide +kernel
set_option maxHeartbeats 4000000 in
set_option maxRecDepth 100000 in
theorem c_X4_beginsStone (l : Launch) (D : va_G) (cy : Nat → ClassId) (a : Nat → Nat) (sz : Nat) (RO : Nat → Nat → Option Nat) (x0 : Int32) (x1 : Int32) (W0 : Nat → Int32) : Met l yX4_beginsStone wsX4_beginsStone ({ frames := 1, cells := 0, slots := 0, locals := 22 }) (va_Pc [.ref (a 20), .int x0, .int x1] (PW D cy sz (CL cy a (fun _ => 0) (va_up (fun _ => 0) 643 1) (va_up (va_up (fun _ => none) 100 (some (a 4))) 5 (some (a 20))) (va_up (fun _ _ => 0) 21 W0) RO))) (vp_Si (fun r => r = bI (false))) 0 0 (fun _ => False) := by
  refine Met.ofW (cc := cX4_beginsStone) (maxL := 3) (ret := (some .boolean)) (by decide) rfl ?_
  intro p e s m args below meth c s₁ B hml hv
  obtain ⟨rfl, rfl, hP, hK, hN, hD0⟩ := hv
  have hx := B.exec
  have hb := B.bytes
  have hr := B.returns
  have hts := atoms_spec (ws := wsX4_beginsStone) B.pre
  have hown : s.vm.findClass RX4 = some m.cls := findClass_of_methodNamed B.named
  have hlocks := B.notSynchronized
  have hw0 := hts (.fieldLink RX4 20 "ParquetLayer$Layings" "free" "J") (by decide +kernel)
  have hi4 := ihX4_beginsStone_4
  have hD := hD0
  have hl := lv_entry ([.ref (a 20), .int x0, .int x1]) (n := 3) (Nat.le_of_ble_eq_true rfl)
  rw [lg_entry_eq]
  generalize (lg_sl ([.ref (a 20), .int x0, .int x1]) ++ List.replicate (3 - (lg_sl ([.ref (a 20), .int x0, .int x1])).length) Slot.unset).toArray = ls at hl ⊢
  have hl : lv_has ls 3 [(0, .ref (a 20)), (1, .int x0), (2, .int x1)] := hl
  refine lv_aload_n hx hb dX4_beginsStone_0 rfl (lv_at hl 0 rfl) ?_
  refine va_get (D := D) (ci := 3) (v := .long 0) (C := RX4) (T := TX4) (N := 4) hx hb hts hi4 hown hK hP 20 rfl rfl 2 (by decide) hw0 (fun _ h9 => h9) rfl dX4_beginsStone_1 ?_
  refine lv_iload_n hx hb dX4_beginsStone_4 rfl (lv_at hl 1 rfl) ?_
  refine kS_i (As := [.long 0, .int x0]) (rest := []) ⟨hx, hb, hml, hown, hts⟩ (c_X1_holds l 0 x0) (va_cwS 2 hts gX4_beginsStone_X1_holds rfl rfl rfl (by decide +kernel) ⟨Nat.le_of_ble_eq_true rfl, Nat.le_of_ble_eq_true rfl⟩) rfl hl.1 rfl (Nat.le_of_ble_eq_true rfl) dX4_beginsStone_5 ⟨Nat.le_of_ble_eq_true rfl, Nat.le_of_ble_eq_true rfl⟩ ?_
  refine lv_if_eq (tgt := 21) hx hb dX4_beginsStone_8 (by decide) (fun c_1 => ?_) (fun c_1 => absurd (by rw [g_holds0]; rfl) c_1)
  refine lv_iconst (v := 0) hx hb dX4_beginsStone_21 (by decide) ?_
  exact pret_z hx hb hr hlocks rfl dX4_beginsStone_22
theorem dX4_acrossOf_11 : decode cX4_acrossOf 11 = .ok (.iload 6, 2) := by decide +kernel
theorem dX4_acrossOf_13 : decode cX4_acrossOf 13 = .ok (.bipush 64, 2) := by decide +kernel
theorem dX4_acrossOf_15 : decode cX4_acrossOf 15 = .ok (.if_icmp .ge 78, 3) := by decide +kernel
theorem dX4_acrossOf_93 : decode cX4_acrossOf 93 = .ok (.lload_n 2, 1) := by decide +kernel
theorem dX4_acrossOf_94 : decode cX4_acrossOf 94 = .ok (.lreturn, 1) := by decide +kernel
theorem dX4_acrossOf_18 : decode cX4_acrossOf 18 = .ok (.iload 5, 2) := by decide +kernel
theorem dX4_acrossOf_20 : decode cX4_acrossOf 20 = .ok (.iconst 1, 1) := by decide +kernel
theorem dX4_acrossOf_21 : decode cX4_acrossOf 21 = .ok (.ishr, 1) := by decide +kernel
theorem dX4_acrossOf_22 : decode cX4_acrossOf 22 = .ok (.istore 7, 2) := by decide +kernel
theorem dX4_acrossOf_24 : decode cX4_acrossOf 24 = .ok (.aload_n 0, 1) := by decide +kernel
theorem dX4_acrossOf_25 : decode cX4_acrossOf 25 = .ok (.iload 6, 2) := by decide +kernel
theorem dX4_acrossOf_27 : decode cX4_acrossOf 27 = .ok (.iload 5, 2) := by decide +kernel
set_option maxRecDepth 20000 in
theorem ggX4_acrossOf_X4_beginsStone : GoodIn wsX4_acrossOf wsX4_beginsStone := goodIn_r _ [5, 6, 7, 8, 9, 10, 19, 20, 21, 22] (by decide +kernel) (by decide +kernel)
set_option maxRecDepth 20000 in
theorem gX4_acrossOf_X4_beginsStone : GoodIn wsX4_acrossOf (wsV RX4 42 RX4 yX4_beginsStone wsX4_beginsStone) := goodIn_app (goodIn_of _ (by decide +kernel)) ggX4_acrossOf_X4_beginsStone
theorem dX4_acrossOf_29 : decode cX4_acrossOf 29 = .ok (.invokevirtual 42, 3) := by decide +kernel
theorem dX4_acrossOf_32 : decode cX4_acrossOf 32 = .ok (.ifCond .eq 51, 3) := by decide +kernel
theorem dX4_acrossOf_83 : decode cX4_acrossOf 83 = .ok (.iload 7, 2) := by decide +kernel
theorem dX4_acrossOf_85 : decode cX4_acrossOf 85 = .ok (.istore 5, 2) := by decide +kernel
theorem dX4_acrossOf_87 : decode cX4_acrossOf 87 = .ok (.iinc 6 1, 3) := by decide +kernel
theorem dX4_acrossOf_90 : decode cX4_acrossOf 90 = .ok (.goto (-79), 3) := by decide +kernel
theorem dX4_acrossOf_0 : decode cX4_acrossOf 0 = .ok (.lconst 0, 1) := by decide +kernel
theorem dX4_acrossOf_1 : decode cX4_acrossOf 1 = .ok (.lstore_n 2, 1) := by decide +kernel
theorem dX4_acrossOf_2 : decode cX4_acrossOf 2 = .ok (.iload_n 1, 1) := by decide +kernel
theorem dX4_acrossOf_3 : decode cX4_acrossOf 3 = .ok (.istore 4, 2) := by decide +kernel
theorem dX4_acrossOf_5 : decode cX4_acrossOf 5 = .ok (.iconst 0, 1) := by decide +kernel
theorem dX4_acrossOf_6 : decode cX4_acrossOf 6 = .ok (.istore 5, 2) := by decide +kernel
theorem dX4_acrossOf_8 : decode cX4_acrossOf 8 = .ok (.iconst 0, 1) := by decide +kernel
theorem dX4_acrossOf_9 : decode cX4_acrossOf 9 = .ok (.istore 6, 2) := by decide +kernel
set_option maxHeartbeats 4000000 in
set_option maxRecDepth 100000 in
theorem c_X4_acrossOf (l : Launch) (D : va_G) (cy : Nat → ClassId) (a : Nat → Nat) (sz : Nat) (RO : Nat → Nat → Option Nat) (x0 : Int32) (W0 : Nat → Int32) : Met l yX4_acrossOf wsX4_acrossOf ({ frames := 2, cells := 0, slots := 0, locals := 44 }) (va_Pc [.ref (a 20), .int x0] (PW D cy sz (CL cy a (fun _ => 0) (va_up (fun _ => 0) 643 1) (va_up (va_up (fun _ => none) 100 (some (a 4))) 5 (some (a 20))) (va_up (fun _ _ => 0) 21 W0) RO))) (vp_Sl (fun r => r = 0)) 0 0 (fun _ => False) := by
  refine Met.ofW (cc := cX4_acrossOf) (maxL := 9) (ret := (some .long)) (by decide) rfl ?_
  intro p e s m args below meth c s₁ B hml hv
  obtain ⟨rfl, rfl, hP, hK, hN, hD0⟩ := hv
  have hx := B.exec
  have hb := B.bytes
  have hr := B.returns
  have hts := atoms_spec (ws := wsX4_acrossOf) B.pre
  have hown : s.vm.findClass RX4 = some m.cls := findClass_of_methodNamed B.named
  have hlocks := B.notSynchronized
  have hD := hD0
  have hl := lv_entry ([.ref (a 20), .int x0]) (n := 9) (Nat.le_of_ble_eq_true rfl)
  rw [lg_entry_eq]
  generalize (lg_sl ([.ref (a 20), .int x0]) ++ List.replicate (9 - (lg_sl ([.ref (a 20), .int x0])).length) Slot.unset).toArray = ls at hl ⊢
  have hl : lv_has ls 9 [(0, .ref (a 20)), (1, .int x0)] := hl
  have lp : ∀ (n11 : Nat), ∀ (i : Nat), (i ≤ 64) → (64 - i) < n11 → ∀ (ls : Array Slot), lv_has ls 9 [(0, .ref (a 20)), (1, .int x0), (2, .long 0), (4, .int x0), (5, .int 0), (6, .int (nI i))] → W p l e (headSpec wsX4_acrossOf ({ frames := 2, cells := 0, slots := 0, locals := 44 })).room s m ([.ref (a 20), .int x0] : List Value).toArray below meth c s.heap [] 0 0 (MQ below (vp_Sl (fun r => r = 0)) ([.ref (a 20), .int x0] : List Value).toArray s 0 0 (fun _ => False)) (F0 m 11 ls []) := by
    intro n11
    induction n11 with
    | zero => intro i hi hn; exact absurd hn (Nat.not_lt_zero _)
    | succ n11 ih11 =>
      intro i hi hn11 ls hl
      refine lv_iload hx hb dX4_acrossOf_11 (lv_at hl 5 rfl) ?_
      refine lv_bipush (v := 64) hx hb dX4_acrossOf_13 (by decide) ?_
      refine lv_icmp_ge (tgt := 93) hx hb dX4_acrossOf_15 (by decide) (fun c_1 => ?_) (fun c_1 => ?_)
      · have hie := ctr_ge (N := 64) (by decide) hi c_1
        subst hie
        refine lv_lload_n hx hb dX4_acrossOf_93 rfl (lv_at hl 2 rfl) ?_
        exact pret_l hx hb hr hlocks rfl dX4_acrossOf_94
      · have hlt := ctr_lt (N := 64) (by decide) hi c_1
        refine lv_iload hx hb dX4_acrossOf_18 (lv_at hl 4 rfl) ?_
        refine lv_iconst (v := 1) hx hb dX4_acrossOf_20 (by decide) ?_
        refine lv_ishr hx hb dX4_acrossOf_21 ?_
        refine wtop_i (y := 0) (by decide) ?_
        refine lv_istore (lv' := [(7, .int 0), (0, .ref (a 20)), (1, .int x0), (2, .long 0), (4, .int x0), (5, .int 0), (6, .int (nI i))]) hx hb dX4_acrossOf_22 hl (by decide) rfl (fun ls hl => ?_)
        refine lv_aload_n hx hb dX4_acrossOf_24 rfl (lv_at hl 1 rfl) ?_
        refine lv_iload hx hb dX4_acrossOf_25 (lv_at hl 6 rfl) ?_
        refine lv_iload hx hb dX4_acrossOf_27 (lv_at hl 5 rfl) ?_
        refine kR_i (As := [.int (nI i), .int 0]) (rest := []) (q0 := 20) ⟨hx, hb, hml, hown, hts⟩ (c_X4_beginsStone l D cy a _ RO (nI i) 0 W0) (cwV 2 hts gX4_acrossOf_X4_beginsStone rfl rfl rfl (by decide +kernel) ⟨Nat.le_of_ble_eq_true rfl, Nat.le_of_ble_eq_true rfl⟩) hK hN hP hD rfl rfl rfl hl.1 rfl (Nat.le_of_ble_eq_true rfl) dX4_acrossOf_29 ⟨Nat.le_of_ble_eq_true rfl, Nat.le_of_ble_eq_true rfl⟩ ?_
        refine lv_if_eq (tgt := 83) hx hb dX4_acrossOf_32 (by decide) (fun c_2 => ?_) (fun c_2 => absurd (by decide) c_2)
        refine lv_iload hx hb dX4_acrossOf_83 (lv_at hl 0 rfl) ?_
        refine lv_istore (lv' := [(5, .int 0), (7, .int 0), (0, .ref (a 20)), (1, .int x0), (2, .long 0), (4, .int x0), (6, .int (nI i))]) hx hb dX4_acrossOf_85 hl (by decide) rfl (fun ls hl => ?_)
        refine lv_iinc (v := nI (i + 1)) (lv' := [(6, .int (nI (i + 1))), (5, .int 0), (7, .int 0), (0, .ref (a 20)), (1, .int x0), (2, .long 0), (4, .int x0)]) hx hb dX4_acrossOf_87 hl (k := 6) rfl (nI_1 _) (by decide) rfl (fun ls hl => ?_)
        refine lv_goto (tgt := 11) hx hb dX4_acrossOf_90 (by decide) ?_
        exact ih11 (i + 1) (by omega) (by omega) ls (lv_sub hl [3, 4, 5, 6, 1, 0] rfl)
  refine lv_lconst (v := 0) hx hb dX4_acrossOf_0 (by decide) ?_
  refine lv_lstore_n (lv' := [(2, .long 0), (0, .ref (a 20)), (1, .int x0)]) hx hb dX4_acrossOf_1 rfl hl (by decide) rfl (fun ls hl => ?_)
  refine lv_iload_n hx hb dX4_acrossOf_2 rfl (lv_at hl 2 rfl) ?_
  refine lv_istore (lv' := [(4, .int x0), (2, .long 0), (0, .ref (a 20)), (1, .int x0)]) hx hb dX4_acrossOf_3 hl (by decide) rfl (fun ls hl => ?_)
  refine lv_iconst (v := 0) hx hb dX4_acrossOf_5 (by decide) ?_
  refine lv_istore (lv' := [(5, .int 0), (4, .int x0), (2, .long 0), (0, .ref (a 20)), (1, .int x0)]) hx hb dX4_acrossOf_6 hl (by decide) rfl (fun ls hl => ?_)
  refine lv_iconst (v := 0) hx hb dX4_acrossOf_8 (by decide) ?_
  refine lv_istore (lv' := [(6, .int 0), (5, .int 0), (4, .int x0), (2, .long 0), (0, .ref (a 20)), (1, .int x0)]) hx hb dX4_acrossOf_9 hl (by decide) rfl (fun ls hl => ?_)
  exact lp _ 0 (by omega) (Nat.lt_succ_self _) ls (lv_sub hl [4, 5, 3, 2, 1, 0] rfl)
theorem dX4_alongBeside_26 : decode cX4_alongBeside 26 = .ok (.iload 7, 2) := by decide +kernel
theorem dX4_alongBeside_28 : decode cX4_alongBeside 28 = .ok (.bipush 63, 2) := by decide +kernel
theorem dX4_alongBeside_30 : decode cX4_alongBeside 30 = .ok (.if_icmp .ge 41, 3) := by decide +kernel
theorem dX4_alongBeside_71 : decode cX4_alongBeside 71 = .ok (.lload_n 3, 1) := by decide +kernel
theorem dX4_alongBeside_72 : decode cX4_alongBeside 72 = .ok (.lreturn, 1) := by decide +kernel
theorem dX4_alongBeside_33 : decode cX4_alongBeside 33 = .ok (.lload 5, 2) := by decide +kernel
theorem dX4_alongBeside_35 : decode cX4_alongBeside 35 = .ok (.iload 7, 2) := by decide +kernel
set_option maxRecDepth 20000 in
theorem ggX4_alongBeside_X1_holds : GoodIn wsX4_alongBeside wsX1_holds := goodIn_r _ [7] (by decide +kernel) (by decide +kernel)
set_option maxRecDepth 20000 in
theorem gX4_alongBeside_X1_holds : GoodIn wsX4_alongBeside (va_wsS RX4 37 yX1_holds wsX1_holds) := goodIn_app (goodIn_of _ (by decide +kernel)) ggX4_alongBeside_X1_holds
theorem dX4_alongBeside_37 : decode cX4_alongBeside 37 = .ok (.invokestatic 37, 3) := by decide +kernel
theorem dX4_alongBeside_40 : decode cX4_alongBeside 40 = .ok (.ifCond .eq 25, 3) := by decide +kernel
theorem dX4_alongBeside_65 : decode cX4_alongBeside 65 = .ok (.iinc 7 1, 3) := by decide +kernel
theorem dX4_alongBeside_68 : decode cX4_alongBeside 68 = .ok (.goto (-42), 3) := by decide +kernel
theorem dX4_alongBeside_0 : decode cX4_alongBeside 0 = .ok (.lconst 0, 1) := by decide +kernel
theorem dX4_alongBeside_1 : decode cX4_alongBeside 1 = .ok (.lstore_n 3, 1) := by decide +kernel
theorem dX4_alongBeside_2 : decode cX4_alongBeside 2 = .ok (.aload_n 0, 1) := by decide +kernel
theorem dX4_alongBeside_3 : decode cX4_alongBeside 3 = .ok (.getfield 20, 3) := by decide +kernel
theorem dX4_alongBeside_6 : decode cX4_alongBeside 6 = .ok (.lload_n 1, 1) := by decide +kernel
theorem dX4_alongBeside_7 : decode cX4_alongBeside 7 = .ok (.ldc2_w 28, 3) := by decide +kernel
theorem dX4_alongBeside_10 : decode cX4_alongBeside 10 = .ok (.lxor, 1) := by decide +kernel
theorem dX4_alongBeside_11 : decode cX4_alongBeside 11 = .ok (.land, 1) := by decide +kernel
theorem dX4_alongBeside_12 : decode cX4_alongBeside 12 = .ok (.lload_n 1, 1) := by decide +kernel
theorem dX4_alongBeside_13 : decode cX4_alongBeside 13 = .ok (.bipush 8, 2) := by decide +kernel
theorem dX4_alongBeside_15 : decode cX4_alongBeside 15 = .ok (.lshl, 1) := by decide +kernel
theorem dX4_alongBeside_16 : decode cX4_alongBeside 16 = .ok (.ldc2_w 28, 3) := by decide +kernel
theorem dX4_alongBeside_19 : decode cX4_alongBeside 19 = .ok (.lxor, 1) := by decide +kernel
theorem dX4_alongBeside_20 : decode cX4_alongBeside 20 = .ok (.land, 1) := by decide +kernel
theorem dX4_alongBeside_21 : decode cX4_alongBeside 21 = .ok (.lstore 5, 2) := by decide +kernel
theorem dX4_alongBeside_23 : decode cX4_alongBeside 23 = .ok (.iconst 0, 1) := by decide +kernel
theorem dX4_alongBeside_24 : decode cX4_alongBeside 24 = .ok (.istore 7, 2) := by decide +kernel
set_option maxRecDepth 20000 in
theorem ihX4_alongBeside_4 : ∀ w ∈ u_ws RX4 TX4 4, w ∈ wsX4_alongBeside := by decide +kernel
set_option maxHeartbeats 4000000 in
set_option maxRecDepth 100000 in
theorem c_X4_alongBeside (l : Launch) (D : va_G) (cy : Nat → ClassId) (a : Nat → Nat) (sz : Nat) (RO : Nat → Nat → Option Nat)  (W0 : Nat → Int32) : Met l yX4_alongBeside wsX4_alongBeside ({ frames := 1, cells := 0, slots := 0, locals := 22 }) (va_Pc [.ref (a 20), .long 0] (PW D cy sz (CL cy a (fun _ => 0) (va_up (fun _ => 0) 643 1) (va_up (va_up (fun _ => none) 100 (some (a 4))) 5 (some (a 20))) (va_up (fun _ _ => 0) 21 W0) RO))) (vp_Sl (fun r => r = 0)) 0 0 (fun _ => False) := by
  refine Met.ofW (cc := cX4_alongBeside) (maxL := 8) (ret := (some .long)) (by decide) rfl ?_
  intro p e s m args below meth c s₁ B hml hv
  obtain ⟨rfl, rfl, hP, hK, hN, hD0⟩ := hv
  have hx := B.exec
  have hb := B.bytes
  have hr := B.returns
  have hts := atoms_spec (ws := wsX4_alongBeside) B.pre
  have hown : s.vm.findClass RX4 = some m.cls := findClass_of_methodNamed B.named
  have hlocks := B.notSynchronized
  have hw0 := hts (.fieldLink RX4 20 "ParquetLayer$Layings" "free" "J") (by decide +kernel)
  have hw1 := hts (.constantLong RX4 28 (-1)) (by decide +kernel)
  have hi4 := ihX4_alongBeside_4
  have hD := hD0
  have hl := lv_entry ([.ref (a 20), .long 0]) (n := 8) (Nat.le_of_ble_eq_true rfl)
  rw [lg_entry_eq]
  generalize (lg_sl ([.ref (a 20), .long 0]) ++ List.replicate (8 - (lg_sl ([.ref (a 20), .long 0])).length) Slot.unset).toArray = ls at hl ⊢
  have hl : lv_has ls 8 [(0, .ref (a 20)), (1, .long 0)] := hl
  have lp : ∀ (n26 : Nat), ∀ (i : Nat), (i ≤ 63) → (63 - i) < n26 → ∀ (ls : Array Slot), lv_has ls 8 [(0, .ref (a 20)), (1, .long 0), (3, .long 0), (5, .long 0), (7, .int (nI i))] → W p l e (headSpec wsX4_alongBeside ({ frames := 1, cells := 0, slots := 0, locals := 22 })).room s m ([.ref (a 20), .long 0] : List Value).toArray below meth c s.heap [] 0 0 (MQ below (vp_Sl (fun r => r = 0)) ([.ref (a 20), .long 0] : List Value).toArray s 0 0 (fun _ => False)) (F0 m 26 ls []) := by
    intro n26
    induction n26 with
    | zero => intro i hi hn; exact absurd hn (Nat.not_lt_zero _)
    | succ n26 ih26 =>
      intro i hi hn26 ls hl
      refine lv_iload hx hb dX4_alongBeside_26 (lv_at hl 4 rfl) ?_
      refine lv_bipush (v := 63) hx hb dX4_alongBeside_28 (by decide) ?_
      refine lv_icmp_ge (tgt := 71) hx hb dX4_alongBeside_30 (by decide) (fun c_1 => ?_) (fun c_1 => ?_)
      · have hie := ctr_ge (N := 63) (by decide) hi c_1
        subst hie
        refine lv_lload_n hx hb dX4_alongBeside_71 rfl (lv_at hl 2 rfl) ?_
        exact pret_l hx hb hr hlocks rfl dX4_alongBeside_72
      · have hlt := ctr_lt (N := 63) (by decide) hi c_1
        refine lv_lload hx hb dX4_alongBeside_33 (lv_at hl 3 rfl) ?_
        refine lv_iload hx hb dX4_alongBeside_35 (lv_at hl 4 rfl) ?_
        refine kS_i (As := [.long 0, .int (nI i)]) (rest := []) ⟨hx, hb, hml, hown, hts⟩ (c_X1_holds l 0 (nI i)) (va_cwS 2 hts gX4_alongBeside_X1_holds rfl rfl rfl (by decide +kernel) ⟨Nat.le_of_ble_eq_true rfl, Nat.le_of_ble_eq_true rfl⟩) rfl hl.1 rfl (Nat.le_of_ble_eq_true rfl) dX4_alongBeside_37 ⟨Nat.le_of_ble_eq_true rfl, Nat.le_of_ble_eq_true rfl⟩ ?_
        refine lv_if_eq (tgt := 65) hx hb dX4_alongBeside_40 (by decide) (fun c_2 => ?_) (fun c_2 => absurd (by rw [g_holds0]; rfl) c_2)
        refine lv_iinc (v := nI (i + 1)) (lv' := [(7, .int (nI (i + 1))), (0, .ref (a 20)), (1, .long 0), (3, .long 0), (5, .long 0)]) hx hb dX4_alongBeside_65 hl (k := 4) rfl (nI_1 _) (by decide) rfl (fun ls hl => ?_)
        refine lv_goto (tgt := 26) hx hb dX4_alongBeside_68 (by decide) ?_
        exact ih26 (i + 1) (by omega) (by omega) ls (lv_sub hl [1, 2, 3, 4, 0] rfl)
  refine lv_lconst (v := 0) hx hb dX4_alongBeside_0 (by decide) ?_
  refine lv_lstore_n (lv' := [(3, .long 0), (0, .ref (a 20)), (1, .long 0)]) hx hb dX4_alongBeside_1 rfl hl (by decide) rfl (fun ls hl => ?_)
  refine lv_aload_n hx hb dX4_alongBeside_2 rfl (lv_at hl 1 rfl) ?_
  refine va_get (D := D) (ci := 3) (v := .long 0) (C := RX4) (T := TX4) (N := 4) hx hb hts hi4 hown hK hP 20 rfl rfl 2 (by decide) hw0 (fun _ h9 => h9) rfl dX4_alongBeside_3 ?_
  refine lv_lload_n hx hb dX4_alongBeside_6 rfl (lv_at hl 2 rfl) ?_
  refine lv_ldc2 (v := (-1)) hx hb hown hw1 dX4_alongBeside_7 ?_
  refine lv_lxor hx hb dX4_alongBeside_10 ?_
  refine wtop_l (y := (-1)) (by decide) ?_
  refine lv_land hx hb dX4_alongBeside_11 ?_
  refine wtop_l (y := 0) (by decide) ?_
  refine lv_lload_n hx hb dX4_alongBeside_12 rfl (lv_at hl 2 rfl) ?_
  refine lv_bipush (v := 8) hx hb dX4_alongBeside_13 (by decide) ?_
  refine lv_lshl (v := (0 : Int64) <<< ((8 : Int32).toInt64 &&& 63)) hx hb dX4_alongBeside_15 rfl ?_
  refine lv_ldc2 (v := (-1)) hx hb hown hw1 dX4_alongBeside_16 ?_
  refine lv_lxor hx hb dX4_alongBeside_19 ?_
  refine lv_land hx hb dX4_alongBeside_20 ?_
  refine wtop_l (y := 0) (by decide) ?_
  refine lv_lstore (lv' := [(5, .long 0), (3, .long 0), (0, .ref (a 20)), (1, .long 0)]) hx hb dX4_alongBeside_21 hl (by decide) rfl (fun ls hl => ?_)
  refine lv_iconst (v := 0) hx hb dX4_alongBeside_23 (by decide) ?_
  refine lv_istore (lv' := [(7, .int 0), (5, .long 0), (3, .long 0), (0, .ref (a 20)), (1, .long 0)]) hx hb dX4_alongBeside_24 hl (by decide) rfl (fun ls hl => ?_)
  exact lp _ 0 (by omega) (Nat.lt_succ_self _) ls (lv_sub hl [3, 4, 2, 1, 0] rfl)
theorem dX9_knownLayings_0 : decode cX9_knownLayings 0 = .ok (.aload_n 0, 1) := by decide +kernel
theorem dX9_knownLayings_1 : decode cX9_knownLayings 1 = .ok (.getfield 337, 3) := by decide +kernel
theorem dX9_knownLayings_4 : decode cX9_knownLayings 4 = .ok (.ifnonnull 14, 3) := by decide +kernel
theorem dX9_knownLayings_7 : decode cX9_knownLayings 7 = .ok (.aload_n 0, 1) := by decide +kernel
theorem dX9_knownLayings_8 : decode cX9_knownLayings 8 = .ok (.new 175, 3) := by decide +kernel
theorem dX9_knownLayings_11 : decode cX9_knownLayings 11 = .ok (.dup, 1) := by decide +kernel
set_option maxRecDepth 20000 in
theorem ggX9_knownLayings_X4_init : GoodIn wsX9_knownLayings wsX4_init := goodIn_r _ [8, 9, 10, 11, 12, 13, 14, 61, 62, 63, 64] (by decide +kernel) (by decide +kernel)
set_option maxRecDepth 20000 in
theorem gX9_knownLayings_X4_init_n341 : GoodIn wsX9_knownLayings (wsX4_init) := ggX9_knownLayings_X4_init
theorem dX9_knownLayings_12 : decode cX9_knownLayings 12 = .ok (.invokespecial 341, 3) := by decide +kernel
theorem dX9_knownLayings_15 : decode cX9_knownLayings 15 = .ok (.putfield 337, 3) := by decide +kernel
theorem dX9_knownLayings_18 : decode cX9_knownLayings 18 = .ok (.aload_n 0, 1) := by decide +kernel
theorem dX9_knownLayings_19 : decode cX9_knownLayings 19 = .ok (.getfield 337, 3) := by decide +kernel
theorem dX9_knownLayings_22 : decode cX9_knownLayings 22 = .ok (.aload_n 0, 1) := by decide +kernel
theorem dX9_knownLayings_23 : decode cX9_knownLayings 23 = .ok (.getfield 48, 3) := by decide +kernel
theorem dX9_knownLayings_26 : decode cX9_knownLayings 26 = .ok (.aload_n 0, 1) := by decide +kernel
set_option maxRecDepth 20000 in
theorem ggX9_knownLayings_X9_gluedFields : GoodIn wsX9_knownLayings wsX9_gluedFields := goodIn_r _ [19, 20, 21, 22, 23, 24, 25, 26, 27, 28, 29, 18, 30, 50, 51, 52, 53, 54, 55, 56, 57, 58, 59, 60, 65, 66, 67, 68, 69, 70, 71] (by decide +kernel) (by decide +kernel)
set_option maxRecDepth 20000 in
theorem gX9_knownLayings_X9_gluedFields : GoodIn wsX9_knownLayings (wsV RX9 119 RX9 yX9_gluedFields wsX9_gluedFields) := goodIn_app (goodIn_of _ (by decide +kernel)) ggX9_knownLayings_X9_gluedFields
theorem dX9_knownLayings_27 : decode cX9_knownLayings 27 = .ok (.invokevirtual 119, 3) := by decide +kernel
theorem dX9_knownLayings_30 : decode cX9_knownLayings 30 = .ok (.ldc2_w 54, 3) := by decide +kernel
theorem dX9_knownLayings_33 : decode cX9_knownLayings 33 = .ok (.lxor, 1) := by decide +kernel
theorem dX9_knownLayings_34 : decode cX9_knownLayings 34 = .ok (.land, 1) := by decide +kernel
set_option maxRecDepth 20000 in
theorem ggX9_knownLayings_X4_know : GoodIn wsX9_knownLayings wsX4_know := goodIn_r _ [34, 35, 36, 13, 37, 38, 4, 39, 40, 41, 42, 43, 44, 45, 46, 47, 48, 49, 61, 62, 63, 64] (by decide +kernel) (by decide +kernel)
set_option maxRecDepth 20000 in
theorem gX9_knownLayings_X4_know : GoodIn wsX9_knownLayings (wsV RX9 342 RX4 yX4_know wsX4_know) := goodIn_app (goodIn_of _ (by decide +kernel)) ggX9_knownLayings_X4_know
theorem dX9_knownLayings_35 : decode cX9_knownLayings 35 = .ok (.invokevirtual 342, 3) := by decide +kernel
theorem dX9_knownLayings_38 : decode cX9_knownLayings 38 = .ok (.aload_n 0, 1) := by decide +kernel
theorem dX9_knownLayings_39 : decode cX9_knownLayings 39 = .ok (.getfield 337, 3) := by decide +kernel
theorem dX9_knownLayings_42 : decode cX9_knownLayings 42 = .ok (.areturn, 1) := by decide +kernel
set_option maxRecDepth 20000 in
theorem ihX9_knownLayings_4 : ∀ w ∈ u_ws RX4 TX4 4, w ∈ wsX9_knownLayings := by decide +kernel
set_option maxRecDepth 20000 in
theorem ihX9_knownLayings_9 : ∀ w ∈ u_ws RX9 TX9 11, w ∈ wsX9_knownLayings := by decide +kernel
set_option maxHeartbeats 4000000 in
set_option maxRecDepth 100000 in
theorem mr_known0 (l : Launch) (D : va_G) (cy : Nat → ClassId) (a : Nat → Nat) (sz : Nat) (RO : Nat → Nat → Option Nat)  : Met l yX9_knownLayings wsX9_knownLayings ({ frames := 4, cells := 3, slots := 17156, locals := 99 }) (va_Pc [.ref (a 0)] (PW D cy sz (CW cy a (fun _ => 0) (fun _ => 0) (va_up (fun _ => none) 100 (some (a 4))) (fun _ _ => 0) RO))) (va_Qr (fun u : Nat × Nat × (Nat → Int32) => u.2.2 0 = 1) (fun u r t => va_P D vwCl (CL cy (ext a r u.1 u.2.1) (fun _ => 0) (va_up (fun _ => 0) 643 1) (va_up (va_up (fun _ => none) 100 (some (a 4))) 5 (some r)) (va_up (fun _ _ => 0) 21 u.2.2) RO) t.heap ∧ va_D (va_A (CW cy a (fun _ => 0) (fun _ => 0) (va_up (fun _ => none) 100 (some (a 4))) (fun _ _ => 0) RO) sz) (CL cy (ext a r u.1 u.2.1) (fun _ => 0) (va_up (fun _ => 0) 643 1) (va_up (va_up (fun _ => none) 100 (some (a 4))) 5 (some r)) (va_up (fun _ _ => 0) 21 u.2.2) RO)) (va_A (CW cy a (fun _ => 0) (fun _ => 0) (va_up (fun _ => none) 100 (some (a 4))) (fun _ _ => 0) RO) sz)) 3 17156 (va_A (CW cy a (fun _ => 0) (fun _ => 0) (va_up (fun _ => none) 100 (some (a 4))) (fun _ _ => 0) RO) sz) := by
  refine Met.ofW (cc := cX9_knownLayings) (maxL := 1) (ret := (some (.object "ParquetLayer$Layings"))) (by decide) rfl ?_
  intro p e s m args below meth c s₁ B hml hv
  obtain ⟨rfl, rfl, hP, hK, hN, hD0⟩ := hv
  have hx := B.exec
  have hb := B.bytes
  have hr := B.returns
  have hts := atoms_spec (ws := wsX9_knownLayings) B.pre
  have hown : s.vm.findClass RX9 = some m.cls := findClass_of_methodNamed B.named
  have hlocks := B.notSynchronized
  have hw0 := hts (.fieldLink RX9 337 "ParquetLayer" "layings" "LParquetLayer$Layings;") (by decide +kernel)
  have hw1 := hts (.classLink RX9 175 RX4) (by decide +kernel)
  have hw2 := hts (.instantiable RX4 4) (by decide +kernel)
  have hw3 := hts (.initialized RX4) (by decide +kernel)
  have hw4 := hts (.instanceMethod yX4_init) (by decide +kernel)
  have hw5 := hts (.fieldLink RX9 48 "ParquetLayer" "fields" "J") (by decide +kernel)
  have hw6 := hts (.constantLong RX9 54 (-1)) (by decide +kernel)
  have hi4 := ihX9_knownLayings_4
  have hi9 := ihX9_knownLayings_9
  have hD := hD0.self (sz := s.heap.size)
  generalize hAe : va_A (CW cy a (fun _ => 0) (fun _ => 0) (va_up (fun _ => none) 100 (some (a 4))) (fun _ _ => 0) RO) s.heap.size = A at hD ⊢
  have hA : ∀ q : Nat, s.heap.size ≤ q → A q := fun q h => by rw [← hAe]; exact Or.inr h
  have hS : va_S A s.heap s.heap [] := va_S.rf
  have hl := lv_entry ([.ref (a 0)]) (n := 1) (Nat.le_of_ble_eq_true rfl)
  rw [lg_entry_eq]
  generalize (lg_sl ([.ref (a 0)]) ++ List.replicate (1 - (lg_sl ([.ref (a 0)])).length) Slot.unset).toArray = ls at hl ⊢
  have hl : lv_has ls 1 [(0, .ref (a 0))] := hl
  refine lv_aload_n hx hb dX9_knownLayings_0 rfl (lv_at hl 0 rfl) ?_
  refine va_get (D := D) (ci := 8) (v := .null) (C := RX9) (T := TX9) (N := 11) hx hb hts hi9 hown hK hP 0 rfl rfl 5 (by decide) hw0 (fun _ h9 => h9) rfl dX9_knownLayings_1 ?_
  refine lv_ifnonnullN hx hb dX9_knownLayings_4 ?_
  refine lv_aload_n hx hb dX9_knownLayings_7 rfl (lv_at hl 0 rfl) ?_
  refine va_new (ci := 3) (fs := [.null, .null, .long 0, .int 0]) (C := RX4) (T := TX4) (N := 4) hx hb hts hi4 tyX4 tyX4_ok hown hw1 hw2 hw3 hK hP hD hS hA rfl (fun j hj => by rcases (show j = 0 ∨ j = 1 ∨ j = 2 ∨ j = 3 by omega) with rfl | rfl | rfl | rfl <;> rfl) (Nat.le_of_ble_eq_true rfl) (Nat.le_of_ble_eq_true rfl) dX9_knownLayings_8 (fun q_1 H hP hD hS => ?_)
  have hP : va_P D vwCl (CW cy a (fun _ => 0) (fun _ => 0) (va_up (fun _ => none) 100 (some (a 4))) (fun _ _ => 0) RO ++ [(q_1, .inr (3, [.null, .null, .long 0, .int 0]))]) H := hP
  have hD : va_D A (CW cy a (fun _ => 0) (fun _ => 0) (va_up (fun _ => none) 100 (some (a 4))) (fun _ _ => 0) RO ++ [(q_1, .inr (3, [.null, .null, .long 0, .int 0]))]) := hD
  refine lv_dup hx hb dX9_knownLayings_11 rfl ?_
  refine kNewN_v (As := []) (rest := [.ref q_1, .ref (a 0)]) (X := CW cy a (fun _ => 0) (fun _ => 0) (va_up (fun _ => none) 100 (some (a 4))) (fun _ _ => 0) RO) ⟨hx, hb, hml, hown, hts⟩ (ct_X4_init l D cy q_1 _ ) ⟨va_cnB 0 hts gX9_knownLayings_X4_init_n341 rfl rfl rfl hN.2.2.2.2.2.1 hw3 (by decide +kernel) ⟨Nat.le_of_ble_eq_true rfl, Nat.le_of_ble_eq_true rfl⟩, rfl, hw4⟩ hK hN hP hD hS hA rfl hl.1 rfl (Nat.le_of_ble_eq_true rfl) dX9_knownLayings_12 ⟨Nat.le_of_ble_eq_true rfl, Nat.le_of_ble_eq_true rfl⟩ (fun u H locs hw hP hD hS => ?_)
  obtain ⟨q_2, q_3⟩ := u
  have hP : va_P D vwCl (CW cy a (fun _ => 0) (fun _ => 0) (va_up (fun _ => none) 100 (some (a 4))) (fun _ _ => 0) RO ++ [(q_1, .inr (3, [.ref q_2, .ref q_3, .long 0, .int 0])), (q_2, .inl (cy 0, 16640, .inl ((fun _ => 0)))), (q_3, .inl (cy 0, 512, .inl ((fun _ => 0))))]) H := hP
  have hD : va_D A (CW cy a (fun _ => 0) (fun _ => 0) (va_up (fun _ => none) 100 (some (a 4))) (fun _ _ => 0) RO ++ [(q_1, .inr (3, [.ref q_2, .ref q_3, .long 0, .int 0])), (q_2, .inl (cy 0, 16640, .inl ((fun _ => 0)))), (q_3, .inl (cy 0, 512, .inl ((fun _ => 0))))]) := hD
  refine va_put (D := D) (ci := 8) (v := .ref q_1) (ty := .object "ParquetLayer$Layings") (C := RX9) (T := TX9) (N := 11) hx hb hts hi9 tyX9 tyX9_ok nmX9 hown hK hP hD hS 0 rfl rfl 5 (by decide) hw0 (fun _ h9 => h9) rfl (by decide +kernel) rfl rfl (Nat.le_of_ble_eq_true rfl) dX9_knownLayings_15 (fun H locs hP hD hS => ?_)
  have hP : va_P D vwCl (CW cy a (fun _ => 0) (fun _ => 0) (va_up (va_up (fun _ => none) 100 (some (a 4))) 5 (some q_1)) (fun _ _ => 0) RO ++ [(q_1, .inr (3, [.ref q_2, .ref q_3, .long 0, .int 0])), (q_2, .inl (cy 0, 16640, .inl ((fun _ => 0)))), (q_3, .inl (cy 0, 512, .inl ((fun _ => 0))))]) H := hP
  have hD : va_D A (CW cy a (fun _ => 0) (fun _ => 0) (va_up (va_up (fun _ => none) 100 (some (a 4))) 5 (some q_1)) (fun _ _ => 0) RO ++ [(q_1, .inr (3, [.ref q_2, .ref q_3, .long 0, .int 0])), (q_2, .inl (cy 0, 16640, .inl ((fun _ => 0)))), (q_3, .inl (cy 0, 512, .inl ((fun _ => 0))))]) := hD
  have hP : va_P D vwCl (CL cy (ext a q_1 q_2 q_3) (fun _ => 0) (fun _ => 0) (va_up (va_up (fun _ => none) 100 (some (a 4))) 5 (some q_1)) (fun _ _ => 0) RO) H := hP
  have hD : va_D A (CL cy (ext a q_1 q_2 q_3) (fun _ => 0) (fun _ => 0) (va_up (va_up (fun _ => none) 100 (some (a 4))) 5 (some q_1)) (fun _ _ => 0) RO) := hD
  refine lv_aload_n hx hb dX9_knownLayings_18 rfl (lv_at hl 0 rfl) ?_
  refine va_get (D := D) (ci := 8) (v := .ref q_1) (C := RX9) (T := TX9) (N := 11) hx hb hts hi9 hown hK hP 0 rfl rfl 5 (by decide) hw0 (fun _ h9 => h9) rfl dX9_knownLayings_19 ?_
  refine lv_aload_n hx hb dX9_knownLayings_22 rfl (lv_at hl 0 rfl) ?_
  refine va_get (D := D) (ci := 8) (v := .long 0) (C := RX9) (T := TX9) (N := 11) hx hb hts hi9 hown hK hP 0 rfl rfl 6 (by decide) hw5 (fun _ h9 => h9) rfl dX9_knownLayings_23 ?_
  refine lv_aload_n hx hb dX9_knownLayings_26 rfl (lv_at hl 0 rfl) ?_
  refine kR_l (As := []) (rest := [.long 0, .ref q_1]) (q0 := 0) ⟨hx, hb, hml, hown, hts⟩ (c_X9_gluedFieldsL l D cy (ext a q_1 q_2 q_3) _ (fun _ => 0) (fun _ _ => 0) RO  ) (cwV 0 hts gX9_knownLayings_X9_gluedFields rfl rfl rfl (by decide +kernel) ⟨Nat.le_of_ble_eq_true rfl, Nat.le_of_ble_eq_true rfl⟩) hK hN hP hD rfl rfl rfl hl.1 rfl (Nat.le_of_ble_eq_true rfl) dX9_knownLayings_27 ⟨Nat.le_of_ble_eq_true rfl, Nat.le_of_ble_eq_true rfl⟩ ?_
  refine lv_ldc2 (v := (-1)) hx hb hown hw6 dX9_knownLayings_30 ?_
  refine lv_lxor hx hb dX9_knownLayings_33 ?_
  refine wtop_l (y := (-1)) (by decide) ?_
  refine lv_land hx hb dX9_knownLayings_34 ?_
  refine wtop_l (y := 0) (by decide) ?_
  refine kM_v (As := [.long 0]) (rest := []) (q0 := 20) ⟨hx, hb, hml, hown, hts⟩ (hv_know0 l D cy (ext a q_1 q_2 q_3) _ RO  ) (cwV 1 hts gX9_knownLayings_X4_know rfl rfl rfl (by decide +kernel) ⟨Nat.le_of_ble_eq_true rfl, Nat.le_of_ble_eq_true rfl⟩) hK hN hP hD hS hA rfl rfl rfl hl.1 rfl (Nat.le_of_ble_eq_true rfl) dX9_knownLayings_35 ⟨Nat.le_of_ble_eq_true rfl, Nat.le_of_ble_eq_true rfl⟩ (fun u H locs hw hP hD hS => ?_)
  obtain ⟨W0, hW0, rfl⟩ := hw
  have hP : va_P D vwCl (CL cy (ext a q_1 q_2 q_3) (fun _ => 0) (va_up (fun _ => 0) 643 1) (va_up (va_up (fun _ => none) 100 (some (a 4))) 5 (some q_1)) (va_up (fun _ _ => 0) 21 W0) RO) H := hP
  have hD : va_D A (CL cy (ext a q_1 q_2 q_3) (fun _ => 0) (va_up (fun _ => 0) 643 1) (va_up (va_up (fun _ => none) 100 (some (a 4))) 5 (some q_1)) (va_up (fun _ _ => 0) 21 W0) RO) := hD
  refine lv_aload_n hx hb dX9_knownLayings_38 rfl (lv_at hl 0 rfl) ?_
  refine va_get (D := D) (ci := 8) (v := .ref q_1) (C := RX9) (T := TX9) (N := 11) hx hb hts hi9 hown hK hP 0 rfl rfl 5 (by decide) hw0 (fun _ h9 => h9) rfl dX9_knownLayings_39 ?_
  exact wret_r hx hb hr hlocks (Or.inl ⟨_, rfl⟩) (q_2, q_3, W0) hW0 hP hD hS dX9_knownLayings_42
set_option maxHeartbeats 4000000 in
set_option maxRecDepth 100000 in
theorem mr_known1 (l : Launch) (D : va_G) (cy : Nat → ClassId) (a : Nat → Nat) (sz : Nat) (RO : Nat → Nat → Option Nat)  (W0 : Nat → Int32) (hW0 : W0 0 = 1) : Met l yX9_knownLayings wsX9_knownLayings ({ frames := 1, cells := 0, slots := 0, locals := 23 }) (va_Pc [.ref (a 0)] (PW D cy sz (CL cy a (fun _ => 0) (va_up (fun _ => 0) 643 1) (va_up (va_up (fun _ => none) 100 (some (a 4))) 5 (some (a 20))) (va_up (fun _ _ => 0) 21 W0) RO))) (va_Qr (fun u : Nat × Nat × (Nat → Int32) => u.2.2 0 = 1) (fun u r t => va_P D vwCl (CL cy (ext a r u.1 u.2.1) (fun _ => 0) (va_up (fun _ => 0) 643 1) (va_up (va_up (fun _ => none) 100 (some (a 4))) 5 (some r)) (va_up (fun _ _ => 0) 21 u.2.2) RO) t.heap ∧ va_D (va_A (CL cy a (fun _ => 0) (va_up (fun _ => 0) 643 1) (va_up (va_up (fun _ => none) 100 (some (a 4))) 5 (some (a 20))) (va_up (fun _ _ => 0) 21 W0) RO) sz) (CL cy (ext a r u.1 u.2.1) (fun _ => 0) (va_up (fun _ => 0) 643 1) (va_up (va_up (fun _ => none) 100 (some (a 4))) 5 (some r)) (va_up (fun _ _ => 0) 21 u.2.2) RO)) (va_A (CL cy a (fun _ => 0) (va_up (fun _ => 0) 643 1) (va_up (va_up (fun _ => none) 100 (some (a 4))) 5 (some (a 20))) (va_up (fun _ _ => 0) 21 W0) RO) sz)) 0 0 (va_A (CL cy a (fun _ => 0) (va_up (fun _ => 0) 643 1) (va_up (va_up (fun _ => none) 100 (some (a 4))) 5 (some (a 20))) (va_up (fun _ _ => 0) 21 W0) RO) sz) := by
  refine Met.ofW (cc := cX9_knownLayings) (maxL := 1) (ret := (some (.object "ParquetLayer$Layings"))) (by decide) rfl ?_
  intro p e s m args below meth c s₁ B hml hv
  obtain ⟨rfl, rfl, hP, hK, hN, hD0⟩ := hv
  have hx := B.exec
  have hb := B.bytes
  have hr := B.returns
  have hts := atoms_spec (ws := wsX9_knownLayings) B.pre
  have hown : s.vm.findClass RX9 = some m.cls := findClass_of_methodNamed B.named
  have hlocks := B.notSynchronized
  have hw0 := hts (.fieldLink RX9 337 "ParquetLayer" "layings" "LParquetLayer$Layings;") (by decide +kernel)
  have hw1 := hts (.fieldLink RX9 48 "ParquetLayer" "fields" "J") (by decide +kernel)
  have hw2 := hts (.constantLong RX9 54 (-1)) (by decide +kernel)
  have hi9 := ihX9_knownLayings_9
  have hD := hD0.self (sz := s.heap.size)
  generalize hAe : va_A (CL cy a (fun _ => 0) (va_up (fun _ => 0) 643 1) (va_up (va_up (fun _ => none) 100 (some (a 4))) 5 (some (a 20))) (va_up (fun _ _ => 0) 21 W0) RO) s.heap.size = A at hD ⊢
  have hA : ∀ q : Nat, s.heap.size ≤ q → A q := fun q h => by rw [← hAe]; exact Or.inr h
  have hS : va_S A s.heap s.heap [] := va_S.rf
  have hl := lv_entry ([.ref (a 0)]) (n := 1) (Nat.le_of_ble_eq_true rfl)
  rw [lg_entry_eq]
  generalize (lg_sl ([.ref (a 0)]) ++ List.replicate (1 - (lg_sl ([.ref (a 0)])).length) Slot.unset).toArray = ls at hl ⊢
  have hl : lv_has ls 1 [(0, .ref (a 0))] := hl
  refine lv_aload_n hx hb dX9_knownLayings_0 rfl (lv_at hl 0 rfl) ?_
  refine va_get (D := D) (ci := 8) (v := .ref (a 20)) (C := RX9) (T := TX9) (N := 11) hx hb hts hi9 hown hK hP 0 rfl rfl 5 (by decide) hw0 (fun _ h9 => h9) rfl dX9_knownLayings_1 ?_
  refine lv_ifnonnull (tgt := 18) hx hb dX9_knownLayings_4 (by decide) ?_
  refine lv_aload_n hx hb dX9_knownLayings_18 rfl (lv_at hl 0 rfl) ?_
  refine va_get (D := D) (ci := 8) (v := .ref (a 20)) (C := RX9) (T := TX9) (N := 11) hx hb hts hi9 hown hK hP 0 rfl rfl 5 (by decide) hw0 (fun _ h9 => h9) rfl dX9_knownLayings_19 ?_
  refine lv_aload_n hx hb dX9_knownLayings_22 rfl (lv_at hl 0 rfl) ?_
  refine va_get (D := D) (ci := 8) (v := .long 0) (C := RX9) (T := TX9) (N := 11) hx hb hts hi9 hown hK hP 0 rfl rfl 6 (by decide) hw1 (fun _ h9 => h9) rfl dX9_knownLayings_23 ?_
  refine lv_aload_n hx hb dX9_knownLayings_26 rfl (lv_at hl 0 rfl) ?_
  refine kR_l (As := []) (rest := [.long 0, .ref (a 20)]) (q0 := 0) ⟨hx, hb, hml, hown, hts⟩ (c_X9_gluedFieldsL l D cy a _ (va_up (fun _ => 0) 643 1) (va_up (fun _ _ => 0) 21 W0) RO  ) (cwV 0 hts gX9_knownLayings_X9_gluedFields rfl rfl rfl (by decide +kernel) ⟨Nat.le_of_ble_eq_true rfl, Nat.le_of_ble_eq_true rfl⟩) hK hN hP hD rfl rfl rfl hl.1 rfl (Nat.le_of_ble_eq_true rfl) dX9_knownLayings_27 ⟨Nat.le_of_ble_eq_true rfl, Nat.le_of_ble_eq_true rfl⟩ ?_
  refine lv_ldc2 (v := (-1)) hx hb hown hw2 dX9_knownLayings_30 ?_
  refine lv_lxor hx hb dX9_knownLayings_33 ?_
  refine wtop_l (y := (-1)) (by decide) ?_
  refine lv_land hx hb dX9_knownLayings_34 ?_
  refine wtop_l (y := 0) (by decide) ?_
  refine kM_v (As := [.long 0]) (rest := []) (q0 := 20) ⟨hx, hb, hml, hown, hts⟩ (c_know1 l D cy a _ RO  W0) (cwV 1 hts gX9_knownLayings_X4_know rfl rfl rfl (by decide +kernel) ⟨Nat.le_of_ble_eq_true rfl, Nat.le_of_ble_eq_true rfl⟩) hK hN hP hD hS hA rfl rfl rfl hl.1 rfl (Nat.le_of_ble_eq_true rfl) dX9_knownLayings_35 ⟨Nat.le_of_ble_eq_true rfl, Nat.le_of_ble_eq_true rfl⟩ (fun u H locs hw hP hD hS => ?_)
  obtain rfl := hw
  have hP : va_P D vwCl (CL cy a (fun _ => 0) (va_up (fun _ => 0) 643 1) (va_up (va_up (fun _ => none) 100 (some (a 4))) 5 (some (a 20))) (va_up (fun _ _ => 0) 21 W0) RO) H := hP
  have hD : va_D A (CL cy a (fun _ => 0) (va_up (fun _ => 0) 643 1) (va_up (va_up (fun _ => none) 100 (some (a 4))) 5 (some (a 20))) (va_up (fun _ _ => 0) 21 W0) RO) := hD
  refine lv_aload_n hx hb dX9_knownLayings_38 rfl (lv_at hl 0 rfl) ?_
  refine va_get (D := D) (ci := 8) (v := .ref (a 20)) (C := RX9) (T := TX9) (N := 11) hx hb hts hi9 hown hK hP 0 rfl rfl 5 (by decide) hw0 (fun _ h9 => h9) rfl dX9_knownLayings_39 ?_
  exact wret_r hx hb hr hlocks (Or.inl ⟨_, rfl⟩) (a 21, a 22, W0) hW0 hP hD hS dX9_knownLayings_42
