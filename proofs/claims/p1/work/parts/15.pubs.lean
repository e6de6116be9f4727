theorem dX0_queueLeft_12 : decode cX0_queueLeft 12 = .ok (.iload_n 3, 1) := by decide +kernel
theorem dX0_queueLeft_13 : decode cX0_queueLeft 13 = .ok (.bipush 64, 2) := by decide +kernel
theorem dX0_queueLeft_15 : decode cX0_queueLeft 15 = .ok (.if_icmp .ge 32, 3) := by decide +kernel
theorem dX0_queueLeft_47 : decode cX0_queueLeft 47 = .ok (.aload_n 0, 1) := by decide +kernel
theorem dX0_queueLeft_48 : decode cX0_queueLeft 48 = .ok (.aload_n 0, 1) := by decide +kernel
theorem dX0_queueLeft_49 : decode cX0_queueLeft 49 = .ok (.getfield 71, 3) := by decide +kernel
theorem dX0_queueLeft_52 : decode cX0_queueLeft 52 = .ok (.putfield 74, 3) := by decide +kernel
theorem dX0_queueLeft_55 : decode cX0_queueLeft 55 = .ok (.return_, 1) := by decide +kernel
theorem dX0_queueLeft_18 : decode cX0_queueLeft 18 = .ok (.lload_n 1, 1) := by decide +kernel
theorem dX0_queueLeft_19 : decode cX0_queueLeft 19 = .ok (.iload_n 3, 1) := by decide +kernel
set_option maxRecDepth 20000 in
theorem ggX0_queueLeft_X1_holds : GoodIn wsX0_queueLeft wsX1_holds := goodIn_r _ [8] (by decide +kernel) (by decide +kernel)
set_option maxRecDepth 20000 in
theorem gX0_queueLeft_X1_holds : GoodIn wsX0_queueLeft (va_wsS RX0 64 yX1_holds wsX1_holds) := goodIn_app (goodIn_of _ (by decide +kernel)) ggX0_queueLeft_X1_holds
theorem dX0_queueLeft_20 : decode cX0_queueLeft 20 = .ok (.invokestatic 64, 3) := by decide +kernel
theorem dX0_queueLeft_23 : decode cX0_queueLeft 23 = .ok (.ifCond .eq 18, 3) := by decide +kernel
theorem dX0_queueLeft_41 : decode cX0_queueLeft 41 = .ok (.iinc 3 1, 3) := by decide +kernel
theorem dX0_queueLeft_44 : decode cX0_queueLeft 44 = .ok (.goto (-32), 3) := by decide +kernel
theorem dX0_queueLeft_0 : decode cX0_queueLeft 0 = .ok (.aload_n 0, 1) := by decide +kernel
theorem dX0_queueLeft_1 : decode cX0_queueLeft 1 = .ok (.iconst 0, 1) := by decide +kernel
theorem dX0_queueLeft_2 : decode cX0_queueLeft 2 = .ok (.putfield 45, 3) := by decide +kernel
theorem dX0_queueLeft_5 : decode cX0_queueLeft 5 = .ok (.aload_n 0, 1) := by decide +kernel
theorem dX0_queueLeft_6 : decode cX0_queueLeft 6 = .ok (.lconst 0, 1) := by decide +kernel
theorem dX0_queueLeft_7 : decode cX0_queueLeft 7 = .ok (.putfield 71, 3) := by decide +kernel
theorem dX0_queueLeft_10 : decode cX0_queueLeft 10 = .ok (.iconst 0, 1) := by decide +kernel
theorem dX0_queueLeft_11 : decode cX0_queueLeft 11 = .ok (.istore_n 3, 1) := by decide +kernel
set_option maxRecDepth 20000 in
theorem ihX0_queueLeft_0 : ∀ w ∈ u_ws RX0 TX0 7, w ∈ wsX0_queueLeft := by decide +kernel
set_option maxHeartbeats 4000000 in
set_option maxRecDepth 100000 in
theorem c_X0_queueLeft (l : Launch) (D : va_G) (cy : Nat → ClassId) (a : Nat → Nat) (sz : Nat) (R : Nat → Nat → Int32) (RO : Nat → Nat → Option Nat)  : Met l yX0_queueLeft wsX0_queueLeft ({ frames := 1, cells := 0, slots := 0, locals := 22 }) (va_Pc [.ref (a 8), .long 0] (PW D cy sz (CW cy a (fun _ => 0) (fun _ => 0) (va_up (fun _ => none) 100 (some (a 4))) R RO))) (va_Qv (fun (u : CS) => u = ((fun _ => 0), (fun _ => 0), (va_up (fun _ => none) 100 (some (a 4))), R, RO)) (BW D (va_A (CW cy a (fun _ => 0) (fun _ => 0) (va_up (fun _ => none) 100 (some (a 4))) R RO) sz) (CWu cy a)) (va_A (CW cy a (fun _ => 0) (fun _ => 0) (va_up (fun _ => none) 100 (some (a 4))) R RO) sz)) 0 0 (va_A (CW cy a (fun _ => 0) (fun _ => 0) (va_up (fun _ => none) 100 (some (a 4))) R RO) sz) := by
  refine Met.ofW (cc := cX0_queueLeft) (maxL := 4) (ret := none) (by decide) rfl ?_
  intro p e s m args below meth c s₁ B hml hv
  obtain ⟨rfl, rfl, hP, hK, hN, hD0⟩ := hv
  have hx := B.exec
  have hb := B.bytes
  have hr := B.returns
  have hts := atoms_spec (ws := wsX0_queueLeft) B.pre
  have hown : s.vm.findClass RX0 = some m.cls := findClass_of_methodNamed B.named
  have hlocks := B.notSynchronized
  have hw0 := hts (.fieldLink RX0 71 "ParquetLayer$Covering" "reached" "J") (by decide +kernel)
  have hw1 := hts (.fieldLink RX0 74 "ParquetLayer$Covering" "left" "J") (by decide +kernel)
  have hw2 := hts (.fieldLink RX0 45 "ParquetLayer$Covering" "queued" "I") (by decide +kernel)
  have hi0 := ihX0_queueLeft_0
  have hD := hD0.self (sz := s.heap.size)
  generalize hAe : va_A (CW cy a (fun _ => 0) (fun _ => 0) (va_up (fun _ => none) 100 (some (a 4))) R RO) s.heap.size = A at hD ⊢
  have hA : ∀ q : Nat, s.heap.size ≤ q → A q := fun q h => by rw [← hAe]; exact Or.inr h
  have hS : va_S A s.heap s.heap [] := va_S.rf
  have hl := lv_entry ([.ref (a 8), .long 0]) (n := 4) (Nat.le_of_ble_eq_true rfl)
  rw [lg_entry_eq]
  generalize (lg_sl ([.ref (a 8), .long 0]) ++ List.replicate (4 - (lg_sl ([.ref (a 8), .long 0])).length) Slot.unset).toArray = ls at hl ⊢
  have hl : lv_has ls 4 [(0, .ref (a 8)), (1, .long 0)] := hl
  have lp : ∀ (n12 : Nat), ∀ (i : Nat), (i ≤ 64) → (64 - i) < n12 → ∀ (H : Heap) (locs : List Loc), va_P D vwCl (CW cy a (fun _ => 0) (fun _ => 0) (va_up (fun _ => none) 100 (some (a 4))) R RO) H → va_D A (CW cy a (fun _ => 0) (fun _ => 0) (va_up (fun _ => none) 100 (some (a 4))) R RO) → va_S A s.heap H locs → ∀ (ls : Array Slot), lv_has ls 4 [(0, .ref (a 8)), (1, .long 0), (3, .int (nI i))] → W p l e (headSpec wsX0_queueLeft ({ frames := 1, cells := 0, slots := 0, locals := 22 })).room s m ([.ref (a 8), .long 0] : List Value).toArray below meth c H locs 0 0 (MQ below (va_Qv (fun (u : CS) => u = ((fun _ => 0), (fun _ => 0), (va_up (fun _ => none) 100 (some (a 4))), R, RO)) (BW D A (CWu cy a)) A) ([.ref (a 8), .long 0] : List Value).toArray s 0 0 A) (F0 m 12 ls []) := by
    intro n12
    induction n12 with
    | zero => intro i hi hn; exact absurd hn (Nat.not_lt_zero _)
    | succ n12 ih12 =>
      intro i hi hn12 H locs hP hD hS ls hl
      refine lv_iload_n hx hb dX0_queueLeft_12 rfl (lv_at hl 2 rfl) ?_
      refine lv_bipush (v := 64) hx hb dX0_queueLeft_13 (by decide) ?_
      refine lv_icmp_ge (tgt := 47) hx hb dX0_queueLeft_15 (by decide) (fun c_1 => ?_) (fun c_1 => ?_)
      · have hie := ctr_ge (N := 64) (by decide) hi c_1
        subst hie
        refine lv_aload_n hx hb dX0_queueLeft_47 rfl (lv_at hl 0 rfl) ?_
        refine lv_aload_n hx hb dX0_queueLeft_48 rfl (lv_at hl 0 rfl) ?_
        refine va_get (D := D) (ci := 0) (v := .long 0) (C := RX0) (T := TX0) (N := 7) hx hb hts hi0 hown hK hP 8 rfl rfl 6 (by decide) hw0 (fun _ h9 => h9) rfl dX0_queueLeft_49 ?_
        refine va_put (D := D) (ci := 0) (v := .long 0) (ty := .long) (C := RX0) (T := TX0) (N := 7) hx hb hts hi0 tyX0 tyX0_ok nmX0 hown hK hP hD hS 8 rfl rfl 5 (by decide) hw1 (fun _ h9 => h9) rfl (by decide +kernel) rfl rfl (Nat.le_of_ble_eq_true rfl) dX0_queueLeft_52 (fun H locs hP hD hS => ?_)
        have hP : va_P D vwCl (CW cy a (fun _ => 0) (fun _ => 0) (va_up (fun _ => none) 100 (some (a 4))) R RO) H := hP
        have hD : va_D A (CW cy a (fun _ => 0) (fun _ => 0) (va_up (fun _ => none) 100 (some (a 4))) R RO) := hD
        exact wret_v hx hb hr hlocks ((fun _ => 0), (fun _ => 0), (va_up (fun _ => none) 100 (some (a 4))), R, RO) rfl hP hD hS dX0_queueLeft_55
      · have hlt := ctr_lt (N := 64) (by decide) hi c_1
        refine lv_lload_n hx hb dX0_queueLeft_18 rfl (lv_at hl 1 rfl) ?_
        refine lv_iload_n hx hb dX0_queueLeft_19 rfl (lv_at hl 2 rfl) ?_
        refine kS_i (As := [.long 0, .int (nI i)]) (rest := []) ⟨hx, hb, hml, hown, hts⟩ (c_X1_holds l 0 (nI i)) (va_cwS 2 hts gX0_queueLeft_X1_holds rfl rfl rfl (by decide +kernel) ⟨Nat.le_of_ble_eq_true rfl, Nat.le_of_ble_eq_true rfl⟩) rfl hl.1 rfl (Nat.le_of_ble_eq_true rfl) dX0_queueLeft_20 ⟨Nat.le_of_ble_eq_true rfl, Nat.le_of_ble_eq_true rfl⟩ ?_
        refine lv_if_eq (tgt := 41) hx hb dX0_queueLeft_23 (by decide) (fun c_2 => ?_) (fun c_2 => absurd (by rw [g_holds0]; rfl) c_2)
        refine lv_iinc (v := nI (i + 1)) (lv' := [(3, .int (nI (i + 1))), (0, .ref (a 8)), (1, .long 0)]) hx hb dX0_queueLeft_41 hl (k := 2) rfl (nI_1 _) (by decide) rfl (fun ls hl => ?_)
        refine lv_goto (tgt := 12) hx hb dX0_queueLeft_44 (by decide) ?_
        exact ih12 (i + 1) (by omega) (by omega) _ _ hP hD hS ls (lv_sub hl [1, 2, 0] rfl)
  refine lv_aload_n hx hb dX0_queueLeft_0 rfl (lv_at hl 0 rfl) ?_
  refine lv_iconst (v := 0) hx hb dX0_queueLeft_1 (by decide) ?_
  refine va_put (D := D) (ci := 0) (v := .int 0) (ty := .int) (C := RX0) (T := TX0) (N := 7) hx hb hts hi0 tyX0 tyX0_ok nmX0 hown hK hP hD hS 8 rfl rfl 3 (by decide) hw2 (fun _ h9 => h9) rfl (by decide +kernel) rfl rfl (Nat.le_of_ble_eq_true rfl) dX0_queueLeft_2 (fun H locs hP hD hS => ?_)
  have hP : va_P D vwCl (CW cy a (fun _ => 0) (fun _ => 0) (va_up (fun _ => none) 100 (some (a 4))) R RO) H := hP
  have hD : va_D A (CW cy a (fun _ => 0) (fun _ => 0) (va_up (fun _ => none) 100 (some (a 4))) R RO) := hD
  refine lv_aload_n hx hb dX0_queueLeft_5 rfl (lv_at hl 0 rfl) ?_
  refine lv_lconst (v := 0) hx hb dX0_queueLeft_6 (by decide) ?_
  refine va_put (D := D) (ci := 0) (v := .long 0) (ty := .long) (C := RX0) (T := TX0) (N := 7) hx hb hts hi0 tyX0 tyX0_ok nmX0 hown hK hP hD hS 8 rfl rfl 6 (by decide) hw0 (fun _ h9 => h9) rfl (by decide +kernel) rfl rfl (Nat.le_of_ble_eq_true rfl) dX0_queueLeft_7 (fun H locs hP hD hS => ?_)
  have hP : va_P D vwCl (CW cy a (fun _ => 0) (fun _ => 0) (va_up (fun _ => none) 100 (some (a 4))) R RO) H := hP
  have hD : va_D A (CW cy a (fun _ => 0) (fun _ => 0) (va_up (fun _ => none) 100 (some (a 4))) R RO) := hD
  refine lv_iconst (v := 0) hx hb dX0_queueLeft_10 (by decide) ?_
  refine lv_istore_n (lv' := [(3, .int 0), (0, .ref (a 8)), (1, .long 0)]) hx hb dX0_queueLeft_11 rfl hl (by decide) rfl (fun ls hl => ?_)
  exact lp _ 0 (by omega) (Nat.lt_succ_self _) _ _ hP hD hS ls (lv_sub hl [1, 2, 0] rfl)
theorem dX0_search_0 : decode cX0_search 0 = .ok (.aload_n 0, 1) := by decide +kernel
theorem dX0_search_1 : decode cX0_search 1 = .ok (.lload_n 1, 1) := by decide +kernel
theorem dX0_search_2 : decode cX0_search 2 = .ok (.ldc2_w 35, 3) := by decide +kernel
theorem dX0_search_5 : decode cX0_search 5 = .ok (.land, 1) := by decide +kernel
set_option maxRecDepth 20000 in
theorem ggX0_search_X0_queueLeft : GoodIn wsX0_search wsX0_queueLeft := goodIn_r _ [19, 4, 20, 14, 21, 22, 23, 24, 25, 26, 27, 28, 18, 29, 3, 35, 36, 37, 38, 39, 40, 41] (by decide +kernel) (by decide +kernel)
set_option maxRecDepth 20000 in
theorem gX0_search_X0_queueLeft : GoodIn wsX0_search (wsV RX0 37 RX0 yX0_queueLeft wsX0_queueLeft) := goodIn_app (goodIn_of _ (by decide +kernel)) ggX0_search_X0_queueLeft
theorem dX0_search_6 : decode cX0_search 6 = .ok (.invokevirtual 37, 3) := by decide +kernel
theorem dX0_search_9 : decode cX0_search 9 = .ok (.aload_n 0, 1) := by decide +kernel
theorem dX0_search_10 : decode cX0_search 10 = .ok (.lconst 0, 1) := by decide +kernel
theorem dX0_search_11 : decode cX0_search 11 = .ok (.putfield 41, 3) := by decide +kernel
theorem dX0_search_14 : decode cX0_search 14 = .ok (.iconst 0, 1) := by decide +kernel
theorem dX0_search_15 : decode cX0_search 15 = .ok (.istore_n 3, 1) := by decide +kernel
theorem dX0_search_16 : decode cX0_search 16 = .ok (.iload_n 3, 1) := by decide +kernel
theorem dX0_search_17 : decode cX0_search 17 = .ok (.aload_n 0, 1) := by decide +kernel
theorem dX0_search_18 : decode cX0_search 18 = .ok (.getfield 16, 3) := by decide +kernel
theorem dX0_search_21 : decode cX0_search 21 = .ok (.arraylength, 1) := by decide +kernel
theorem dX0_search_22 : decode cX0_search 22 = .ok (.if_icmp .ge 138, 3) := by decide +kernel
theorem dX0_search_25 : decode cX0_search 25 = .ok (.iload_n 3, 1) := by decide +kernel
theorem dX0_search_26 : decode cX0_search 26 = .ok (.aload_n 0, 1) := by decide +kernel
theorem dX0_search_27 : decode cX0_search 27 = .ok (.getfield 45, 3) := by decide +kernel
theorem dX0_search_30 : decode cX0_search 30 = .ok (.if_icmp .ge 130, 3) := by decide +kernel
theorem dX0_search_160 : decode cX0_search 160 = .ok (.iconst (-1), 1) := by decide +kernel
theorem dX0_search_161 : decode cX0_search 161 = .ok (.ireturn, 1) := by decide +kernel
set_option maxRecDepth 20000 in
theorem ihX0_search_0 : ∀ w ∈ u_ws RX0 TX0 7, w ∈ wsX0_search := by decide +kernel
set_option maxHeartbeats 4000000 in
set_option maxRecDepth 100000 in
theorem c_X0_search (l : Launch) (D : va_G) (cy : Nat → ClassId) (a : Nat → Nat) (sz : Nat) (R : Nat → Nat → Int32) (RO : Nat → Nat → Option Nat)  : Met l yX0_search wsX0_search ({ frames := 2, cells := 0, slots := 0, locals := 45 }) (va_Pc [.ref (a 8), .long 0] (PW D cy sz (CW cy a (fun _ => 0) (fun _ => 0) (va_up (fun _ => none) 100 (some (a 4))) R RO))) (va_Qi (fun r (u : CS) => r = (-1) ∧ u = ((fun _ => 0), (fun _ => 0), (va_up (fun _ => none) 100 (some (a 4))), R, RO)) (BW D (va_A (CW cy a (fun _ => 0) (fun _ => 0) (va_up (fun _ => none) 100 (some (a 4))) R RO) sz) (CWu cy a)) (va_A (CW cy a (fun _ => 0) (fun _ => 0) (va_up (fun _ => none) 100 (some (a 4))) R RO) sz)) 0 0 (va_A (CW cy a (fun _ => 0) (fun _ => 0) (va_up (fun _ => none) 100 (some (a 4))) R RO) sz) := by
  refine Met.ofW (cc := cX0_search) (maxL := 9) (ret := (some .int)) (by decide) rfl ?_
  intro p e s m args below meth c s₁ B hml hv
  obtain ⟨rfl, rfl, hP, hK, hN, hD0⟩ := hv
  have hx := B.exec
  have hb := B.bytes
  have hr := B.returns
  have hts := atoms_spec (ws := wsX0_search) B.pre
  have hown : s.vm.findClass RX0 = some m.cls := findClass_of_methodNamed B.named
  have hlocks := B.notSynchronized
  have hw0 := hts (.constantLong RX0 35 (-6172840429334713771)) (by decide +kernel)
  have hw1 := hts (.fieldLink RX0 41 "ParquetLayer$Covering" "seen" "J") (by decide +kernel)
  have hw2 := hts (.fieldLink RX0 16 "ParquetLayer$Covering" "queue" "[I") (by decide +kernel)
  have hw3 := hts (.fieldLink RX0 45 "ParquetLayer$Covering" "queued" "I") (by decide +kernel)
  have hi0 := ihX0_search_0
  have hD := hD0.self (sz := s.heap.size)
  generalize hAe : va_A (CW cy a (fun _ => 0) (fun _ => 0) (va_up (fun _ => none) 100 (some (a 4))) R RO) s.heap.size = A at hD ⊢
  have hA : ∀ q : Nat, s.heap.size ≤ q → A q := fun q h => by rw [← hAe]; exact Or.inr h
  have hS : va_S A s.heap s.heap [] := va_S.rf
  have hl := lv_entry ([.ref (a 8), .long 0]) (n := 9) (Nat.le_of_ble_eq_true rfl)
  rw [lg_entry_eq]
  generalize (lg_sl ([.ref (a 8), .long 0]) ++ List.replicate (9 - (lg_sl ([.ref (a 8), .long 0])).length) Slot.unset).toArray = ls at hl ⊢
  have hl : lv_has ls 9 [(0, .ref (a 8)), (1, .long 0)] := hl
  refine lv_aload_n hx hb dX0_search_0 rfl (lv_at hl 0 rfl) ?_
  refine lv_lload_n hx hb dX0_search_1 rfl (lv_at hl 1 rfl) ?_
  refine lv_ldc2 (v := (-6172840429334713771)) hx hb hown hw0 dX0_search_2 ?_
  refine lv_land hx hb dX0_search_5 ?_
  refine wtop_l (y := 0) (by decide) ?_
  refine kM_v (As := [.long 0]) (rest := []) (q0 := 8) ⟨hx, hb, hml, hown, hts⟩ (c_X0_queueLeft l D cy a _ R RO  ) (cwV 1 hts gX0_search_X0_queueLeft rfl rfl rfl (by decide +kernel) ⟨Nat.le_of_ble_eq_true rfl, Nat.le_of_ble_eq_true rfl⟩) hK hN hP hD hS hA rfl rfl rfl hl.1 rfl (Nat.le_of_ble_eq_true rfl) dX0_search_6 ⟨Nat.le_of_ble_eq_true rfl, Nat.le_of_ble_eq_true rfl⟩ (fun u H locs hw hP hD hS => ?_)
  obtain rfl := hw
  have hP : va_P D vwCl (CW cy a (fun _ => 0) (fun _ => 0) (va_up (fun _ => none) 100 (some (a 4))) R RO) H := hP
  have hD : va_D A (CW cy a (fun _ => 0) (fun _ => 0) (va_up (fun _ => none) 100 (some (a 4))) R RO) := hD
  refine lv_aload_n hx hb dX0_search_9 rfl (lv_at hl 0 rfl) ?_
  refine lv_lconst (v := 0) hx hb dX0_search_10 (by decide) ?_
  refine va_put (D := D) (ci := 0) (v := .long 0) (ty := .long) (C := RX0) (T := TX0) (N := 7) hx hb hts hi0 tyX0 tyX0_ok nmX0 hown hK hP hD hS 8 rfl rfl 4 (by decide) hw1 (fun _ h9 => h9) rfl (by decide +kernel) rfl rfl (Nat.le_of_ble_eq_true rfl) dX0_search_11 (fun H locs hP hD hS => ?_)
  have hP : va_P D vwCl (CW cy a (fun _ => 0) (fun _ => 0) (va_up (fun _ => none) 100 (some (a 4))) R RO) H := hP
  have hD : va_D A (CW cy a (fun _ => 0) (fun _ => 0) (va_up (fun _ => none) 100 (some (a 4))) R RO) := hD
  refine lv_iconst (v := 0) hx hb dX0_search_14 (by decide) ?_
  refine lv_istore_n (lv' := [(3, .int 0), (0, .ref (a 8)), (1, .long 0)]) hx hb dX0_search_15 rfl hl (by decide) rfl (fun ls hl => ?_)
  refine lv_iload_n hx hb dX0_search_16 rfl (lv_at hl 0 rfl) ?_
  refine lv_aload_n hx hb dX0_search_17 rfl (lv_at hl 1 rfl) ?_
  refine va_get (D := D) (ci := 0) (v := .ref (a 11)) (C := RX0) (T := TX0) (N := 7) hx hb hts hi0 hown hK hP 8 rfl rfl 2 (by decide) hw2 (fun _ h9 => h9) rfl dX0_search_18 ?_
  refine va_alen hx hb hK hP 11 0 rfl rfl (v := 64) rfl dX0_search_21 ?_
  refine lv_icmp_ge (tgt := 160) hx hb dX0_search_22 (by decide) (fun c_1 => absurd c_1 (by decide)) (fun c_1 => ?_)
  refine lv_iload_n hx hb dX0_search_25 rfl (lv_at hl 0 rfl) ?_
  refine lv_aload_n hx hb dX0_search_26 rfl (lv_at hl 1 rfl) ?_
  refine va_get (D := D) (ci := 0) (v := .int 0) (C := RX0) (T := TX0) (N := 7) hx hb hts hi0 hown hK hP 8 rfl rfl 3 (by decide) hw3 (fun _ h9 => h9) rfl dX0_search_27 ?_
  refine lv_icmp_ge (tgt := 160) hx hb dX0_search_30 (by decide) (fun c_2 => ?_) (fun c_2 => absurd (by decide) c_2)
  refine lv_iconst (v := (-1)) hx hb dX0_search_160 (by decide) ?_
  exact wret_i hx hb hr hlocks ((fun _ => 0), (fun _ => 0), (va_up (fun _ => none) 100 (some (a 4))), R, RO) ⟨rfl, rfl⟩ hP hD hS dX0_search_161
theorem dX0_cover_0 : decode cX0_cover 0 = .ok (.aload_n 0, 1) := by decide +kernel
theorem dX0_cover_1 : decode cX0_cover 1 = .ok (.getfield 7, 3) := by decide +kernel
theorem dX0_cover_4 : decode cX0_cover 4 = .ok (.iconst (-1), 1) := by decide +kernel
set_option maxRecDepth 20000 in
theorem ggX0_cover_J7_fill_53178 : GoodIn wsX0_cover wsJ7_fill_53178 := goodIn_r _ [5] (by decide +kernel) (by decide +kernel)
set_option maxRecDepth 20000 in
theorem gX0_cover_J7_fill_53178 : GoodIn wsX0_cover (va_wsS RX0 19 yJ7_fill_53178 wsJ7_fill_53178) := goodIn_app (goodIn_of _ (by decide +kernel)) ggX0_cover_J7_fill_53178
theorem dX0_cover_5 : decode cX0_cover 5 = .ok (.invokestatic 19, 3) := by decide +kernel
theorem dX0_cover_8 : decode cX0_cover 8 = .ok (.aload_n 0, 1) := by decide +kernel
theorem dX0_cover_9 : decode cX0_cover 9 = .ok (.lload_n 1, 1) := by decide +kernel
set_option maxRecDepth 20000 in
theorem ggX0_cover_X0_search : GoodIn wsX0_cover wsX0_search := goodIn_r _ [10, 11, 12, 13, 14, 15, 16, 17, 18, 19, 20, 21, 22, 23, 1, 24, 25, 26, 9, 27, 28, 29, 30, 31, 32, 33, 34, 35, 36, 37, 38, 39, 40, 41, 42, 47, 48, 49, 50, 51, 52, 53] (by decide +kernel) (by decide +kernel)
set_option maxRecDepth 20000 in
theorem gX0_cover_X0_search : GoodIn wsX0_cover (wsV RX0 25 RX0 yX0_search wsX0_search) := goodIn_app (goodIn_of _ (by decide +kernel)) ggX0_cover_X0_search
theorem dX0_cover_10 : decode cX0_cover 10 = .ok (.invokevirtual 25, 3) := by decide +kernel
theorem dX0_cover_13 : decode cX0_cover 13 = .ok (.istore_n 3, 1) := by decide +kernel
theorem dX0_cover_14 : decode cX0_cover 14 = .ok (.iconst 0, 1) := by decide +kernel
theorem dX0_cover_15 : decode cX0_cover 15 = .ok (.istore 4, 2) := by decide +kernel
theorem dX0_cover_17 : decode cX0_cover 17 = .ok (.iload_n 3, 1) := by decide +kernel
theorem dX0_cover_18 : decode cX0_cover 18 = .ok (.iconst (-1), 1) := by decide +kernel
theorem dX0_cover_19 : decode cX0_cover 19 = .ok (.if_icmp .eq 27, 3) := by decide +kernel
theorem dX0_cover_46 : decode cX0_cover 46 = .ok (.return_, 1) := by decide +kernel
set_option maxRecDepth 20000 in
theorem ihX0_cover_0 : ∀ w ∈ u_ws RX0 TX0 7, w ∈ wsX0_cover := by decide +kernel
set_option maxHeartbeats 4000000 in
set_option maxRecDepth 100000 in
theorem hv_X0_cover (l : Launch) (D : va_G) (cy : Nat → ClassId) (a : Nat → Nat) (sz : Nat) (RO : Nat → Nat → Option Nat)  : Met l yX0_cover wsX0_cover ({ frames := 3, cells := 0, slots := 0, locals := 73 }) (va_Pc [.ref (a 8), .long 0] (PW D cy sz (CW cy a (fun _ => 0) (fun _ => 0) (va_up (fun _ => none) 100 (some (a 4))) (fun _ _ => 0) RO))) (va_Qv (fun (u : CS) => u.1 = (fun _ => 0) ∧ u.2.1 = (fun _ => 0) ∧ u.2.2.1 = (va_up (fun _ => none) 100 (some (a 4))) ∧ u.2.2.2.2 = RO) (BW D (va_A (CW cy a (fun _ => 0) (fun _ => 0) (va_up (fun _ => none) 100 (some (a 4))) (fun _ _ => 0) RO) sz) (CWu cy a)) (va_A (CW cy a (fun _ => 0) (fun _ => 0) (va_up (fun _ => none) 100 (some (a 4))) (fun _ _ => 0) RO) sz)) 0 0 (va_A (CW cy a (fun _ => 0) (fun _ => 0) (va_up (fun _ => none) 100 (some (a 4))) (fun _ _ => 0) RO) sz) := by
  refine Met.ofW (cc := cX0_cover) (maxL := 5) (ret := none) (by decide) rfl ?_
  intro p e s m args below meth c s₁ B hml hv
  obtain ⟨rfl, rfl, hP, hK, hN, hD0⟩ := hv
  have hx := B.exec
  have hb := B.bytes
  have hr := B.returns
  have hts := atoms_spec (ws := wsX0_cover) B.pre
  have hown : s.vm.findClass RX0 = some m.cls := findClass_of_methodNamed B.named
  have hlocks := B.notSynchronized
  have hw0 := hts (.fieldLink RX0 7 "ParquetLayer$Covering" "mate" "[I") (by decide +kernel)
  have hi0 := ihX0_cover_0
  have hD := hD0.self (sz := s.heap.size)
  generalize hAe : va_A (CW cy a (fun _ => 0) (fun _ => 0) (va_up (fun _ => none) 100 (some (a 4))) (fun _ _ => 0) RO) s.heap.size = A at hD ⊢
  have hA : ∀ q : Nat, s.heap.size ≤ q → A q := fun q h => by rw [← hAe]; exact Or.inr h
  have hS : va_S A s.heap s.heap [] := va_S.rf
  have hl := lv_entry ([.ref (a 8), .long 0]) (n := 5) (Nat.le_of_ble_eq_true rfl)
  rw [lg_entry_eq]
  generalize (lg_sl ([.ref (a 8), .long 0]) ++ List.replicate (5 - (lg_sl ([.ref (a 8), .long 0])).length) Slot.unset).toArray = ls at hl ⊢
  have hl : lv_has ls 5 [(0, .ref (a 8)), (1, .long 0)] := hl
  refine lv_aload_n hx hb dX0_cover_0 rfl (lv_at hl 0 rfl) ?_
  refine va_get (D := D) (ci := 0) (v := .ref (a 9)) (C := RX0) (T := TX0) (N := 7) hx hb hts hi0 hown hK hP 8 rfl rfl 0 (by decide) hw0 (fun _ h9 => h9) rfl dX0_cover_1 ?_
  refine lv_iconst (v := (-1)) hx hb dX0_cover_4 (by decide) ?_
  refine kO_v (As := [.ref (a 9), .int (-1)]) (rest := []) (q0 := 9) ⟨hx, hb, hml, hown, hts⟩ (c_fill64 l D cy (a 9) _ (fun _ => 0) (-1) ) (va_cwS 2 hts gX0_cover_J7_fill_53178 rfl rfl rfl (by decide +kernel) ⟨Nat.le_of_ble_eq_true rfl, Nat.le_of_ble_eq_true rfl⟩) hK hN hP hD hS hA rfl rfl hl.1 rfl (Nat.le_of_ble_eq_true rfl) dX0_cover_5 ⟨Nat.le_of_ble_eq_true rfl, Nat.le_of_ble_eq_true rfl⟩ (fun u H locs hw hP hD hS => ?_)
  obtain ⟨F_1, rfl⟩ : ∃ z, z = u := ⟨_, rfl⟩
  have hP : va_P D vwCl (CW cy a (fun _ => 0) (fun _ => 0) (va_up (fun _ => none) 100 (some (a 4))) (va_up (fun _ _ => 0) 9 F_1) RO) H := hP
  have hD : va_D A (CW cy a (fun _ => 0) (fun _ => 0) (va_up (fun _ => none) 100 (some (a 4))) (va_up (fun _ _ => 0) 9 F_1) RO) := hD
  refine lv_aload_n hx hb dX0_cover_8 rfl (lv_at hl 0 rfl) ?_
  refine lv_lload_n hx hb dX0_cover_9 rfl (lv_at hl 1 rfl) ?_
  refine kM_i (As := [.long 0]) (rest := []) (q0 := 8) ⟨hx, hb, hml, hown, hts⟩ (c_X0_search l D cy a _ (va_up (fun _ _ => 0) 9 F_1) RO  ) (cwV 1 hts gX0_cover_X0_search rfl rfl rfl (by decide +kernel) ⟨Nat.le_of_ble_eq_true rfl, Nat.le_of_ble_eq_true rfl⟩) hK hN hP hD hS hA rfl rfl rfl hl.1 rfl (Nat.le_of_ble_eq_true rfl) dX0_cover_10 ⟨Nat.le_of_ble_eq_true rfl, Nat.le_of_ble_eq_true rfl⟩ (fun r u H locs hw hP hD hS => ?_)
  obtain ⟨rfl, rfl⟩ := hw
  have hP : va_P D vwCl (CW cy a (fun _ => 0) (fun _ => 0) (va_up (fun _ => none) 100 (some (a 4))) (va_up (fun _ _ => 0) 9 F_1) RO) H := hP
  have hD : va_D A (CW cy a (fun _ => 0) (fun _ => 0) (va_up (fun _ => none) 100 (some (a 4))) (va_up (fun _ _ => 0) 9 F_1) RO) := hD
  refine lv_istore_n (lv' := [(3, .int (-1)), (0, .ref (a 8)), (1, .long 0)]) hx hb dX0_cover_13 rfl hl (by decide) rfl (fun ls hl => ?_)
  refine lv_iconst (v := 0) hx hb dX0_cover_14 (by decide) ?_
  refine lv_istore (lv' := [(4, .int 0), (3, .int (-1)), (0, .ref (a 8)), (1, .long 0)]) hx hb dX0_cover_15 hl (by decide) rfl (fun ls hl => ?_)
  refine lv_iload_n hx hb dX0_cover_17 rfl (lv_at hl 1 rfl) ?_
  refine lv_iconst (v := (-1)) hx hb dX0_cover_18 (by decide) ?_
  refine lv_icmp_eq (tgt := 46) hx hb dX0_cover_19 (by decide) (fun c_2 => ?_) (fun c_2 => absurd (by decide) c_2)
  exact wret_v hx hb hr hlocks ((fun _ => 0), (fun _ => 0), (va_up (fun _ => none) 100 (some (a 4))), (va_up (fun _ _ => 0) 9 F_1), RO) ⟨rfl, rfl, rfl, rfl⟩ hP hD hS dX0_cover_46
theorem dX9_keepPast_0 : decode cX9_keepPast 0 = .ok (.aload_n 0, 1) := by decide +kernel
theorem dX9_keepPast_1 : decode cX9_keepPast 1 = .ok (.getfield 314, 3) := by decide +kernel
theorem dX9_keepPast_4 : decode cX9_keepPast 4 = .ok (.bipush 20, 2) := by decide +kernel
theorem dX9_keepPast_6 : decode cX9_keepPast 6 = .ok (.if_icmp .ne 41, 3) := by decide +kernel
theorem dX9_keepPast_47 : decode cX9_keepPast 47 = .ok (.aload_n 0, 1) := by decide +kernel
theorem dX9_keepPast_48 : decode cX9_keepPast 48 = .ok (.getfield 17, 3) := by decide +kernel
theorem dX9_keepPast_51 : decode cX9_keepPast 51 = .ok (.aload_n 0, 1) := by decide +kernel
theorem dX9_keepPast_52 : decode cX9_keepPast 52 = .ok (.getfield 314, 3) := by decide +kernel
theorem dX9_keepPast_55 : decode cX9_keepPast 55 = .ok (.new 15, 3) := by decide +kernel
theorem dX9_keepPast_58 : decode cX9_keepPast 58 = .ok (.dup, 1) := by decide +kernel
theorem dX9_keepPast_59 : decode cX9_keepPast 59 = .ok (.aload_n 0, 1) := by decide +kernel
theorem dX9_keepPast_60 : decode cX9_keepPast 60 = .ok (.getfield 48, 3) := by decide +kernel
theorem dX9_keepPast_63 : decode cX9_keepPast 63 = .ok (.aload_n 0, 1) := by decide +kernel
theorem dX9_keepPast_64 : decode cX9_keepPast 64 = .ok (.getfield 106, 3) := by decide +kernel
theorem dX9_keepPast_67 : decode cX9_keepPast 67 = .ok (.aload_n 0, 1) := by decide +kernel
theorem dX9_keepPast_68 : decode cX9_keepPast 68 = .ok (.getfield 133, 3) := by decide +kernel
set_option maxRecDepth 20000 in
theorem ggX9_keepPast_X5_init : GoodIn wsX9_keepPast wsX5_init := goodIn_r _ [11, 12, 13, 14, 15, 16, 17, 29, 30, 31] (by decide +kernel) (by decide +kernel)
set_option maxRecDepth 20000 in
theorem gX9_keepPast_X5_init : GoodIn wsX9_keepPast (wsX5_init) := ggX9_keepPast_X5_init
theorem dX9_keepPast_71 : decode cX9_keepPast 71 = .ok (.invokespecial 330, 3) := by decide +kernel
theorem dX9_keepPast_74 : decode cX9_keepPast 74 = .ok (.aastore, 1) := by decide +kernel
theorem dX9_keepPast_75 : decode cX9_keepPast 75 = .ok (.aload_n 0, 1) := by decide +kernel
theorem dX9_keepPast_76 : decode cX9_keepPast 76 = .ok (.dup, 1) := by decide +kernel
theorem dX9_keepPast_77 : decode cX9_keepPast 77 = .ok (.getfield 314, 3) := by decide +kernel
theorem dX9_keepPast_80 : decode cX9_keepPast 80 = .ok (.iconst 1, 1) := by decide +kernel
theorem dX9_keepPast_81 : decode cX9_keepPast 81 = .ok (.iadd, 1) := by decide +kernel
theorem dX9_keepPast_82 : decode cX9_keepPast 82 = .ok (.putfield 314, 3) := by decide +kernel
theorem dX9_keepPast_85 : decode cX9_keepPast 85 = .ok (.return_, 1) := by decide +kernel
set_option maxRecDepth 20000 in
theorem ihX9_keepPast_5 : ∀ w ∈ u_ws RX5 TX5 3, w ∈ wsX9_keepPast := by decide +kernel
set_option maxRecDepth 20000 in
theorem ihX9_keepPast_9 : ∀ w ∈ u_ws RX9 TX9 11, w ∈ wsX9_keepPast := by decide +kernel
set_option maxHeartbeats 4000000 in
set_option maxRecDepth 100000 in
theorem hv_X9_keepPast (l : Launch) (D : va_G) (cy : Nat → ClassId) (a : Nat → Nat) (sz : Nat) (RO : Nat → Nat → Option Nat)  : Met l yX9_keepPast wsX9_keepPast ({ frames := 2, cells := 1, slots := 3, locals := 44 }) (va_Pc [.ref (a 0)] (PW D cy sz (CW cy a (fun _ => 0) (fun _ => 0) (va_up (fun _ => none) 100 (some (a 4))) (fun _ _ => 0) RO))) (va_Qv (fun (u : CS) => u.1 = (fun _ => 0) ∧ u.2.2.1 = (va_up (fun _ => none) 100 (some (a 4))) ∧ u.2.2.2.1 = (fun _ _ => 0)) (BW D (va_A (CW cy a (fun _ => 0) (fun _ => 0) (va_up (fun _ => none) 100 (some (a 4))) (fun _ _ => 0) RO) sz) (CWu cy a)) (va_A (CW cy a (fun _ => 0) (fun _ => 0) (va_up (fun _ => none) 100 (some (a 4))) (fun _ _ => 0) RO) sz)) 1 3 (va_A (CW cy a (fun _ => 0) (fun _ => 0) (va_up (fun _ => none) 100 (some (a 4))) (fun _ _ => 0) RO) sz) := by
  refine Met.ofW (cc := cX9_keepPast) (maxL := 2) (ret := none) (by decide) rfl ?_
  intro p e s m args below meth c s₁ B hml hv
  obtain ⟨rfl, rfl, hP, hK, hN, hD0⟩ := hv
  have hx := B.exec
  have hb := B.bytes
  have hr := B.returns
  have hts := atoms_spec (ws := wsX9_keepPast) B.pre
  have hown : s.vm.findClass RX9 = some m.cls := findClass_of_methodNamed B.named
  have hlocks := B.notSynchronized
  have hw0 := hts (.fieldLink RX9 314 "ParquetLayer" "kept" "I") (by decide +kernel)
  have hw1 := hts (.fieldLink RX9 17 "ParquetLayer" "pasts" "[LParquetLayer$Past;") (by decide +kernel)
  have hw2 := hts (.classLink RX9 15 RX5) (by decide +kernel)
  have hw3 := hts (.instantiable RX5 3) (by decide +kernel)
  have hw4 := hts (.initialized RX5) (by decide +kernel)
  have hw5 := hts (.fieldLink RX9 48 "ParquetLayer" "fields" "J") (by decide +kernel)
  have hw6 := hts (.fieldLink RX9 106 "ParquetLayer" "latest" "LParquetLayer$Stone;") (by decide +kernel)
  have hw7 := hts (.fieldLink RX9 133 "ParquetLayer" "hand" "LParquetLayer$Laying;") (by decide +kernel)
  have hw8 := hts (.methodLink RX9 330 yX5_init) (by decide +kernel)
  have hw9 := hts (.instanceMethod yX5_init) (by decide +kernel)
  have hi5 := ihX9_keepPast_5
  have hi9 := ihX9_keepPast_9
  have hD := hD0.self (sz := s.heap.size)
  generalize hAe : va_A (CW cy a (fun _ => 0) (fun _ => 0) (va_up (fun _ => none) 100 (some (a 4))) (fun _ _ => 0) RO) s.heap.size = A at hD ⊢
  have hA : ∀ q : Nat, s.heap.size ≤ q → A q := fun q h => by rw [← hAe]; exact Or.inr h
  have hS : va_S A s.heap s.heap [] := va_S.rf
  have hl := lv_entry ([.ref (a 0)]) (n := 2) (Nat.le_of_ble_eq_true rfl)
  rw [lg_entry_eq]
  generalize (lg_sl ([.ref (a 0)]) ++ List.replicate (2 - (lg_sl ([.ref (a 0)])).length) Slot.unset).toArray = ls at hl ⊢
  have hl : lv_has ls 2 [(0, .ref (a 0))] := hl
  refine lv_aload_n hx hb dX9_keepPast_0 rfl (lv_at hl 0 rfl) ?_
  refine va_get (D := D) (ci := 8) (v := .int 0) (C := RX9) (T := TX9) (N := 11) hx hb hts hi9 hown hK hP 0 rfl rfl 9 (by decide) hw0 (fun _ h9 => h9) rfl dX9_keepPast_1 ?_
  refine lv_bipush (v := 20) hx hb dX9_keepPast_4 (by decide) ?_
  refine lv_icmp_ne (tgt := 47) hx hb dX9_keepPast_6 (by decide) (fun c_1 => ?_) (fun c_1 => absurd c_1 (by decide))
  refine lv_aload_n hx hb dX9_keepPast_47 rfl (lv_at hl 0 rfl) ?_
  refine va_get (D := D) (ci := 8) (v := .ref (a 2)) (C := RX9) (T := TX9) (N := 11) hx hb hts hi9 hown hK hP 0 rfl rfl 1 (by decide) hw1 (fun _ h9 => h9) rfl dX9_keepPast_48 ?_
  refine lv_aload_n hx hb dX9_keepPast_51 rfl (lv_at hl 0 rfl) ?_
  refine va_get (D := D) (ci := 8) (v := .int 0) (C := RX9) (T := TX9) (N := 11) hx hb hts hi9 hown hK hP 0 rfl rfl 9 (by decide) hw0 (fun _ h9 => h9) rfl dX9_keepPast_52 ?_
  refine va_new (ci := 4) (fs := [.long 0, .null, .null]) (C := RX5) (T := TX5) (N := 3) hx hb hts hi5 tyX5 tyX5_ok hown hw2 hw3 hw4 hK hP hD hS hA rfl (fun j hj => by rcases (show j = 0 ∨ j = 1 ∨ j = 2 by omega) with rfl | rfl | rfl <;> rfl) (Nat.le_of_ble_eq_true rfl) (Nat.le_of_ble_eq_true rfl) dX9_keepPast_55 (fun q_2 H hP hD hS => ?_)
  have hP : va_P D vwCl (CW cy a (fun _ => 0) (fun _ => 0) (va_up (fun _ => none) 100 (some (a 4))) (fun _ _ => 0) RO ++ [(q_2, .inr (4, [.long 0, .null, .null]))]) H := hP
  have hD : va_D A (CW cy a (fun _ => 0) (fun _ => 0) (va_up (fun _ => none) 100 (some (a 4))) (fun _ _ => 0) RO ++ [(q_2, .inr (4, [.long 0, .null, .null]))]) := hD
  refine lv_dup hx hb dX9_keepPast_58 rfl ?_
  refine lv_aload_n hx hb dX9_keepPast_59 rfl (lv_at hl 0 rfl) ?_
  refine va_get (D := D) (ci := 8) (v := .long 0) (C := RX9) (T := TX9) (N := 11) hx hb hts hi9 hown hK hP 0 rfl rfl 6 (by decide) hw5 (fun _ h9 => h9) rfl dX9_keepPast_60 ?_
  refine lv_aload_n hx hb dX9_keepPast_63 rfl (lv_at hl 0 rfl) ?_
  refine va_get (D := D) (ci := 8) (v := .null) (C := RX9) (T := TX9) (N := 11) hx hb hts hi9 hown hK hP 0 rfl rfl 7 (by decide) hw6 (fun _ h9 => h9) rfl dX9_keepPast_64 ?_
  refine lv_aload_n hx hb dX9_keepPast_67 rfl (lv_at hl 0 rfl) ?_
  refine va_get (D := D) (ci := 8) (v := .null) (C := RX9) (T := TX9) (N := 11) hx hb hts hi9 hown hK hP 0 rfl rfl 8 (by decide) hw7 (fun _ h9 => h9) rfl dX9_keepPast_68 ?_
  refine kNew_v (As := [.long 0, .null, .null]) (rest := [.ref q_2, .int 0, .ref (a 2)]) (X := CW cy a (fun _ => 0) (fun _ => 0) (va_up (fun _ => none) 100 (some (a 4))) (fun _ _ => 0) RO) ⟨hx, hb, hml, hown, hts⟩ (ct_X5_init l D cy q_2 _ 0) (cwI 3 hts gX9_keepPast_X5_init rfl rfl rfl hw4 hw8 hw9 rfl (by decide +kernel) ⟨Nat.le_of_ble_eq_true rfl, Nat.le_of_ble_eq_true rfl⟩) hK hN hP hD hS hA rfl hl.1 rfl (Nat.le_of_ble_eq_true rfl) dX9_keepPast_71 ⟨Nat.le_of_ble_eq_true rfl, Nat.le_of_ble_eq_true rfl⟩ (fun u H locs hw hP hD hS => ?_)
  have hP : va_P D vwCl (CW cy a (fun _ => 0) (fun _ => 0) (va_up (fun _ => none) 100 (some (a 4))) (fun _ _ => 0) RO ++ [(q_2, .inr (4, [.long 0, .null, .null]))]) H := hP
  have hD : va_D A (CW cy a (fun _ => 0) (fun _ => 0) (va_up (fun _ => none) 100 (some (a 4))) (fun _ _ => 0) RO ++ [(q_2, .inr (4, [.long 0, .null, .null]))]) := hD
  refine va_astq hx hb hK hP hD hS 2 3 20 4 rfl rfl rfl rfl (by unfold vp_in; decide) dX9_keepPast_74 (fun H locs hP hD hS => ?_)
  have hP : va_P D vwCl (CW cy a (fun _ => 0) (fun _ => 0) (va_up (fun _ => none) 100 (some (a 4))) (fun _ _ => 0) (va_up RO 2 (va_up (RO 2) (0 : Int32).toNatClampNeg (some q_2))) ++ [(q_2, .inr (4, [.long 0, .null, .null]))]) H := hP
  have hD : va_D A (CW cy a (fun _ => 0) (fun _ => 0) (va_up (fun _ => none) 100 (some (a 4))) (fun _ _ => 0) (va_up RO 2 (va_up (RO 2) (0 : Int32).toNatClampNeg (some q_2))) ++ [(q_2, .inr (4, [.long 0, .null, .null]))]) := hD
  refine lv_aload_n hx hb dX9_keepPast_75 rfl (lv_at hl 0 rfl) ?_
  refine lv_dup hx hb dX9_keepPast_76 rfl ?_
  refine va_get (D := D) (ci := 8) (v := .int 0) (C := RX9) (T := TX9) (N := 11) hx hb hts hi9 hown hK hP 0 rfl rfl 9 (by decide) hw0 (fun _ h9 => h9) rfl dX9_keepPast_77 ?_
  refine lv_iconst (v := 1) hx hb dX9_keepPast_80 (by decide) ?_
  refine lv_iadd hx hb dX9_keepPast_81 ?_
  refine wtop_i (y := 1) (by decide) ?_
  refine va_put (D := D) (ci := 8) (v := .int 1) (ty := .int) (C := RX9) (T := TX9) (N := 11) hx hb hts hi9 tyX9 tyX9_ok nmX9 hown hK hP hD hS 0 rfl rfl 9 (by decide) hw0 (fun _ h9 => h9) rfl (by decide +kernel) rfl rfl (Nat.le_of_ble_eq_true rfl) dX9_keepPast_82 (fun H locs hP hD hS => ?_)
  have hP : va_P D vwCl (CW cy a (fun _ => 0) (va_up (fun _ => 0) 9 1) (va_up (fun _ => none) 100 (some (a 4))) (fun _ _ => 0) (va_up RO 2 (va_up (RO 2) (0 : Int32).toNatClampNeg (some q_2))) ++ [(q_2, .inr (4, [.long 0, .null, .null]))]) H := hP
  have hD : va_D A (CW cy a (fun _ => 0) (va_up (fun _ => 0) 9 1) (va_up (fun _ => none) 100 (some (a 4))) (fun _ _ => 0) (va_up RO 2 (va_up (RO 2) (0 : Int32).toNatClampNeg (some q_2))) ++ [(q_2, .inr (4, [.long 0, .null, .null]))]) := hD
  replace hP := hP.sub (ws' := CW cy a (fun _ => 0) (va_up (fun _ => 0) 9 1) (va_up (fun _ => none) 100 (some (a 4))) (fun _ _ => 0) (va_up RO 2 (va_up (RO 2) (0 : Int32).toNatClampNeg (some q_2)))) [0, 1, 2, 3, 4, 5, 6, 7, 8, 9, 10, 11, 12, 13, 14, 15, 16, 17, 18, 19] rfl
  replace hD := hD.sub (ws' := CW cy a (fun _ => 0) (va_up (fun _ => 0) 9 1) (va_up (fun _ => none) 100 (some (a 4))) (fun _ _ => 0) (va_up RO 2 (va_up (RO 2) (0 : Int32).toNatClampNeg (some q_2)))) [0, 1, 2, 3, 4, 5, 6, 7, 8, 9, 10, 11, 12, 13, 14, 15, 16, 17, 18, 19] (by decide) rfl
  exact wret_v hx hb hr hlocks ((fun _ => 0), (va_up (fun _ => 0) 9 1), (va_up (fun _ => none) 100 (some (a 4))), (fun _ _ => 0), (va_up RO 2 (va_up (RO 2) (0 : Int32).toNatClampNeg (some q_2)))) ⟨rfl, rfl, rfl⟩ hP hD hS dX9_keepPast_85
theorem dX9_becomeFloor_0 : decode cX9_becomeFloor 0 = .ok (.aload_n 0, 1) := by decide +kernel
theorem dX9_becomeFloor_1 : decode cX9_becomeFloor 1 = .ok (.getfield 106, 3) := by decide +kernel
theorem dX9_becomeFloor_4 : decode cX9_becomeFloor 4 = .ok (.astore_n 3, 1) := by decide +kernel
theorem dX9_becomeFloor_5 : decode cX9_becomeFloor 5 = .ok (.aload_n 3, 1) := by decide +kernel
theorem dX9_becomeFloor_6 : decode cX9_becomeFloor 6 = .ok (.ifnull 33, 3) := by decide +kernel
theorem dX9_becomeFloor_39 : decode cX9_becomeFloor 39 = .ok (.aload_n 0, 1) := by decide +kernel
theorem dX9_becomeFloor_40 : decode cX9_becomeFloor 40 = .ok (.getfield 106, 3) := by decide +kernel
theorem dX9_becomeFloor_43 : decode cX9_becomeFloor 43 = .ok (.astore_n 3, 1) := by decide +kernel
theorem dX9_becomeFloor_44 : decode cX9_becomeFloor 44 = .ok (.aload_n 3, 1) := by decide +kernel
theorem dX9_becomeFloor_45 : decode cX9_becomeFloor 45 = .ok (.ifnull 37, 3) := by decide +kernel
theorem dX9_becomeFloor_82 : decode cX9_becomeFloor 82 = .ok (.aload_n 0, 1) := by decide +kernel
set_option maxRecDepth 20000 in
theorem ggX9_becomeFloor_X9_keepPast : GoodIn wsX9_becomeFloor wsX9_keepPast := goodIn_r _ [30, 31, 32, 33, 34, 35, 8, 1, 9, 36, 37, 38, 39, 40, 41, 42, 43, 44, 52, 53, 54, 55, 56, 57, 58, 59, 60, 61, 62, 70, 71, 72] (by decide +kernel) (by decide +kernel)
set_option maxRecDepth 20000 in
theorem gX9_becomeFloor_X9_keepPast : GoodIn wsX9_becomeFloor (wsV RX9 130 RX9 yX9_keepPast wsX9_keepPast) := goodIn_app (goodIn_of _ (by decide +kernel)) ggX9_becomeFloor_X9_keepPast
theorem dX9_becomeFloor_83 : decode cX9_becomeFloor 83 = .ok (.invokevirtual 130, 3) := by decide +kernel
theorem dX9_becomeFloor_86 : decode cX9_becomeFloor 86 = .ok (.lload_n 1, 1) := by decide +kernel
theorem dX9_becomeFloor_87 : decode cX9_becomeFloor 87 = .ok (.aload_n 0, 1) := by decide +kernel
theorem dX9_becomeFloor_88 : decode cX9_becomeFloor 88 = .ok (.getfield 48, 3) := by decide +kernel
theorem dX9_becomeFloor_91 : decode cX9_becomeFloor 91 = .ok (.lcmp, 1) := by decide +kernel
theorem dX9_becomeFloor_92 : decode cX9_becomeFloor 92 = .ok (.ifCond .eq 13, 3) := by decide +kernel
theorem dX9_becomeFloor_105 : decode cX9_becomeFloor 105 = .ok (.aload_n 0, 1) := by decide +kernel
theorem dX9_becomeFloor_106 : decode cX9_becomeFloor 106 = .ok (.getfield 48, 3) := by decide +kernel
set_option maxRecDepth 20000 in
theorem ggX9_becomeFloor_J13_bitCount_95d88 : GoodIn wsX9_becomeFloor wsJ13_bitCount_95d88 := goodIn_r _ [48, 49, 50, 51] (by decide +kernel) (by decide +kernel)
set_option maxRecDepth 20000 in
theorem gX9_becomeFloor_J13_bitCount_95d88 : GoodIn wsX9_becomeFloor (va_wsS RX9 74 yJ13_bitCount_95d88 wsJ13_bitCount_95d88) := goodIn_app (goodIn_of _ (by decide +kernel)) ggX9_becomeFloor_J13_bitCount_95d88
theorem dX9_becomeFloor_109 : decode cX9_becomeFloor 109 = .ok (.invokestatic 74, 3) := by decide +kernel
theorem dX9_becomeFloor_112 : decode cX9_becomeFloor 112 = .ok (.ireturn, 1) := by decide +kernel
theorem dX9_becomeFloor_95 : decode cX9_becomeFloor 95 = .ok (.aload_n 0, 1) := by decide +kernel
theorem dX9_becomeFloor_96 : decode cX9_becomeFloor 96 = .ok (.lload_n 1, 1) := by decide +kernel
theorem dX9_becomeFloor_97 : decode cX9_becomeFloor 97 = .ok (.putfield 48, 3) := by decide +kernel
theorem dX9_becomeFloor_100 : decode cX9_becomeFloor 100 = .ok (.aload_n 0, 1) := by decide +kernel
theorem dX9_becomeFloor_101 : decode cX9_becomeFloor 101 = .ok (.aconst_null, 1) := by decide +kernel
theorem dX9_becomeFloor_102 : decode cX9_becomeFloor 102 = .ok (.putfield 133, 3) := by decide +kernel
set_option maxRecDepth 20000 in
theorem ihX9_becomeFloor_9 : ∀ w ∈ u_ws RX9 TX9 11, w ∈ wsX9_becomeFloor := by decide +kernel
set_option maxHeartbeats 4000000 in
set_option maxRecDepth 100000 in
theorem hv_X9_becomeFloor (l : Launch) (D : va_G) (cy : Nat → ClassId) (a : Nat → Nat) (sz : Nat) (RO : Nat → Nat → Option Nat) (x0 : Int64) : Met l yX9_becomeFloor wsX9_becomeFloor ({ frames := 3, cells := 1, slots := 3, locals := 65 }) (va_Pc [.ref (a 0), .long x0] (PW D cy sz (CW cy a (fun _ => 0) (fun _ => 0) (va_up (fun _ => none) 100 (some (a 4))) (fun _ _ => 0) RO))) (va_Qi (fun r (u : CS) => r = bcount x0 ∧ True) (BW D (va_A (CW cy a (fun _ => 0) (fun _ => 0) (va_up (fun _ => none) 100 (some (a 4))) (fun _ _ => 0) RO) sz) (CWu cy a)) (va_A (CW cy a (fun _ => 0) (fun _ => 0) (va_up (fun _ => none) 100 (some (a 4))) (fun _ _ => 0) RO) sz)) 1 3 (va_A (CW cy a (fun _ => 0) (fun _ => 0) (va_up (fun _ => none) 100 (some (a 4))) (fun _ _ => 0) RO) sz) := by
  refine Met.ofW (cc := cX9_becomeFloor) (maxL := 4) (ret := (some .int)) (by decide) rfl ?_
  intro p e s m args below meth c s₁ B hml hv
  obtain ⟨rfl, rfl, hP, hK, hN, hD0⟩ := hv
  have hx := B.exec
  have hb := B.bytes
  have hr := B.returns
  have hts := atoms_spec (ws := wsX9_becomeFloor) B.pre
  have hown : s.vm.findClass RX9 = some m.cls := findClass_of_methodNamed B.named
  have hlocks := B.notSynchronized
  have hw0 := hts (.fieldLink RX9 106 "ParquetLayer" "latest" "LParquetLayer$Stone;") (by decide +kernel)
  have hw1 := hts (.fieldLink RX9 48 "ParquetLayer" "fields" "J") (by decide +kernel)
  have hw2 := hts (.fieldLink RX9 133 "ParquetLayer" "hand" "LParquetLayer$Laying;") (by decide +kernel)
  have hi9 := ihX9_becomeFloor_9
  have hD := hD0.self (sz := s.heap.size)
  generalize hAe : va_A (CW cy a (fun _ => 0) (fun _ => 0) (va_up (fun _ => none) 100 (some (a 4))) (fun _ _ => 0) RO) s.heap.size = A at hD ⊢
  have hA : ∀ q : Nat, s.heap.size ≤ q → A q := fun q h => by rw [← hAe]; exact Or.inr h
  have hS : va_S A s.heap s.heap [] := va_S.rf
  have hl := lv_entry ([.ref (a 0), .long x0]) (n := 4) (Nat.le_of_ble_eq_true rfl)
  rw [lg_entry_eq]
  generalize (lg_sl ([.ref (a 0), .long x0]) ++ List.replicate (4 - (lg_sl ([.ref (a 0), .long x0])).length) Slot.unset).toArray = ls at hl ⊢
  have hl : lv_has ls 4 [(0, .ref (a 0)), (1, .long x0)] := hl
  refine lv_aload_n hx hb dX9_becomeFloor_0 rfl (lv_at hl 0 rfl) ?_
  refine va_get (D := D) (ci := 8) (v := .null) (C := RX9) (T := TX9) (N := 11) hx hb hts hi9 hown hK hP 0 rfl rfl 7 (by decide) hw0 (fun _ h9 => h9) rfl dX9_becomeFloor_1 ?_
  refine lv_astore_nN (lv' := [(3, .null), (0, .ref (a 0)), (1, .long x0)]) hx hb dX9_becomeFloor_4 rfl hl (by decide) rfl (fun ls hl => ?_)
  refine lv_aload_nN hx hb dX9_becomeFloor_5 rfl (lv_at hl 0 rfl) ?_
  refine lv_ifnullN (tgt := 39) hx hb dX9_becomeFloor_6 (by decide) ?_
  refine lv_aload_n hx hb dX9_becomeFloor_39 rfl (lv_at hl 1 rfl) ?_
  refine va_get (D := D) (ci := 8) (v := .null) (C := RX9) (T := TX9) (N := 11) hx hb hts hi9 hown hK hP 0 rfl rfl 7 (by decide) hw0 (fun _ h9 => h9) rfl dX9_becomeFloor_40 ?_
  refine lv_astore_nN (lv' := [(3, .null), (0, .ref (a 0)), (1, .long x0)]) hx hb dX9_becomeFloor_43 rfl hl (by decide) rfl (fun ls hl => ?_)
  refine lv_aload_nN hx hb dX9_becomeFloor_44 rfl (lv_at hl 0 rfl) ?_
  refine lv_ifnullN (tgt := 82) hx hb dX9_becomeFloor_45 (by decide) ?_
  refine lv_aload_n hx hb dX9_becomeFloor_82 rfl (lv_at hl 1 rfl) ?_
  refine kM_v (As := []) (rest := []) (q0 := 0) ⟨hx, hb, hml, hown, hts⟩ (hv_X9_keepPast l D cy a _ RO  ) (cwV 0 hts gX9_becomeFloor_X9_keepPast rfl rfl rfl (by decide +kernel) ⟨Nat.le_of_ble_eq_true rfl, Nat.le_of_ble_eq_true rfl⟩) hK hN hP hD hS hA rfl rfl rfl hl.1 rfl (Nat.le_of_ble_eq_true rfl) dX9_becomeFloor_83 ⟨Nat.le_of_ble_eq_true rfl, Nat.le_of_ble_eq_true rfl⟩ (fun u H locs hw hP hD hS => ?_)
  obtain ⟨z_1, z_2, z_3, z_4, z_5⟩ := u
  obtain ⟨h1, h2, h3⟩ := hw
  dsimp only at h1 h2 h3
  subst h1; subst h2; subst h3
  have hP : va_P D vwCl (CW cy a (fun _ => 0) z_2 (va_up (fun _ => none) 100 (some (a 4))) (fun _ _ => 0) z_5) H := hP
  have hD : va_D A (CW cy a (fun _ => 0) z_2 (va_up (fun _ => none) 100 (some (a 4))) (fun _ _ => 0) z_5) := hD
  refine lv_lload_n hx hb dX9_becomeFloor_86 rfl (lv_at hl 2 rfl) ?_
  refine lv_aload_n hx hb dX9_becomeFloor_87 rfl (lv_at hl 1 rfl) ?_
  refine va_get (D := D) (ci := 8) (v := .long 0) (C := RX9) (T := TX9) (N := 11) hx hb hts hi9 hown hK hP 0 rfl rfl 6 (by decide) hw1 (fun _ h9 => h9) rfl dX9_becomeFloor_88 ?_
  refine W.lcmp hx hb dX9_becomeFloor_91 ?_
  refine lv_if_eq (tgt := 105) hx hb dX9_becomeFloor_92 (by decide) (fun c_6 => ?_) (fun c_6 => ?_)
  · replace c_6 := (lg_cmp_eq _ _).mp c_6
    refine lv_aload_n hx hb dX9_becomeFloor_105 rfl (lv_at hl 1 rfl) ?_
    refine va_get (D := D) (ci := 8) (v := .long 0) (C := RX9) (T := TX9) (N := 11) hx hb hts hi9 hown hK hP 0 rfl rfl 6 (by decide) hw1 (fun _ h9 => h9) rfl dX9_becomeFloor_106 ?_
    refine kS_i (As := [.long 0]) (rest := []) ⟨hx, hb, hml, hown, hts⟩ (c_J13_bitCount_95d88 l 0) (va_cwS 1 hts gX9_becomeFloor_J13_bitCount_95d88 rfl rfl rfl (by decide +kernel) ⟨Nat.le_of_ble_eq_true rfl, Nat.le_of_ble_eq_true rfl⟩) rfl hl.1 rfl (Nat.le_of_ble_eq_true rfl) dX9_becomeFloor_109 ⟨Nat.le_of_ble_eq_true rfl, Nat.le_of_ble_eq_true rfl⟩ ?_
    exact wret_i hx hb hr hlocks ((fun _ => 0), z_2, (va_up (fun _ => none) 100 (some (a 4))), (fun _ _ => 0), z_5) ⟨(by rw [c_6]), trivial⟩ hP hD hS dX9_becomeFloor_112
  · replace c_6 := fun z => c_6 ((lg_cmp_eq _ _).mpr z)
    refine lv_aload_n hx hb dX9_becomeFloor_95 rfl (lv_at hl 1 rfl) ?_
    refine lv_lload_n hx hb dX9_becomeFloor_96 rfl (lv_at hl 2 rfl) ?_
    refine va_put (D := D) (ci := 8) (v := .long x0) (ty := .long) (C := RX9) (T := TX9) (N := 11) hx hb hts hi9 tyX9 tyX9_ok nmX9 hown hK hP hD hS 0 rfl rfl 6 (by decide) hw1 (fun _ h9 => h9) rfl (by decide +kernel) rfl rfl (Nat.le_of_ble_eq_true rfl) dX9_becomeFloor_97 (fun H locs hP hD hS => ?_)
    have hP : va_P D vwCl (CW cy a (va_up (fun _ => 0) 6 x0) z_2 (va_up (fun _ => none) 100 (some (a 4))) (fun _ _ => 0) z_5) H := hP
    have hD : va_D A (CW cy a (va_up (fun _ => 0) 6 x0) z_2 (va_up (fun _ => none) 100 (some (a 4))) (fun _ _ => 0) z_5) := hD
    refine lv_aload_n hx hb dX9_becomeFloor_100 rfl (lv_at hl 1 rfl) ?_
    refine lv_null hx hb dX9_becomeFloor_101 ?_
    refine va_put (D := D) (ci := 8) (v := .null) (ty := .object "ParquetLayer$Laying") (C := RX9) (T := TX9) (N := 11) hx hb hts hi9 tyX9 tyX9_ok nmX9 hown hK hP hD hS 0 rfl rfl 8 (by decide) hw2 (fun _ h9 => h9) rfl (by decide +kernel) rfl rfl (Nat.le_of_ble_eq_true rfl) dX9_becomeFloor_102 (fun H locs hP hD hS => ?_)
    have hP : va_P D vwCl (CW cy a (va_up (fun _ => 0) 6 x0) z_2 (va_up (fun _ => none) 100 (some (a 4))) (fun _ _ => 0) z_5) H := hP
    have hD : va_D A (CW cy a (va_up (fun _ => 0) 6 x0) z_2 (va_up (fun _ => none) 100 (some (a 4))) (fun _ _ => 0) z_5) := hD
    refine lv_aload_n hx hb dX9_becomeFloor_105 rfl (lv_at hl 1 rfl) ?_
    refine va_get (D := D) (ci := 8) (v := .long x0) (C := RX9) (T := TX9) (N := 11) hx hb hts hi9 hown hK hP 0 rfl rfl 6 (by decide) hw1 (fun _ h9 => h9) rfl dX9_becomeFloor_106 ?_
    refine kS_i (As := [.long x0]) (rest := []) ⟨hx, hb, hml, hown, hts⟩ (c_J13_bitCount_95d88 l x0) (va_cwS 1 hts gX9_becomeFloor_J13_bitCount_95d88 rfl rfl rfl (by decide +kernel) ⟨Nat.le_of_ble_eq_true rfl, Nat.le_of_ble_eq_true rfl⟩) rfl hl.1 rfl (Nat.le_of_ble_eq_true rfl) dX9_becomeFloor_109 ⟨Nat.le_of_ble_eq_true rfl, Nat.le_of_ble_eq_true rfl⟩ ?_
    exact wret_i hx hb hr hlocks ((va_up (fun _ => 0) 6 x0), z_2, (va_up (fun _ => none) 100 (some (a 4))), (fun _ _ => 0), z_5) ⟨rfl, trivial⟩ hP hD hS dX9_becomeFloor_112
theorem dX9_stoneOf_0 : decode cX9_stoneOf 0 = .ok (.aload_n 0, 1) := by decide +kernel
theorem dX9_stoneOf_1 : decode cX9_stoneOf 1 = .ok (.getfield 106, 3) := by decide +kernel
theorem dX9_stoneOf_4 : decode cX9_stoneOf 4 = .ok (.astore_n 2, 1) := by decide +kernel
theorem dX9_stoneOf_5 : decode cX9_stoneOf 5 = .ok (.aload_n 2, 1) := by decide +kernel
theorem dX9_stoneOf_6 : decode cX9_stoneOf 6 = .ok (.ifnull 21, 3) := by decide +kernel
theorem dX9_stoneOf_27 : decode cX9_stoneOf 27 = .ok (.aconst_null, 1) := by decide +kernel
theorem dX9_stoneOf_28 : decode cX9_stoneOf 28 = .ok (.areturn, 1) := by decide +kernel
set_option maxRecDepth 20000 in
theorem ihX9_stoneOf_9 : ∀ w ∈ u_ws RX9 TX9 11, w ∈ wsX9_stoneOf := by decide +kernel
set_option maxHeartbeats 4000000 in
set_option maxRecDepth 100000 in
theorem rx_stoneOf (l : Launch) (D : va_G) (cy : Nat → ClassId) (a : Nat → Nat) (sz : Nat) (RO : Nat → Nat → Option Nat) (x0 : Int32) : Met l yX9_stoneOf wsX9_stoneOf ({ frames := 0, cells := 0, slots := 0, locals := 0 }) (va_Pc [.ref (a 0), .int x0] (PW D cy sz (CW cy a (fun _ => 0) (fun _ => 0) (va_up (fun _ => none) 100 (some (a 4))) (fun _ _ => 0) RO))) (vp_Sx .null) 0 0 (fun _ => False) := by
  refine Met.ofW (cc := cX9_stoneOf) (maxL := 3) (ret := (some (.object "ParquetLayer$Stone"))) (by decide) rfl ?_
  intro p e s m args below meth c s₁ B hml hv
  obtain ⟨rfl, rfl, hP, hK, hN, hD0⟩ := hv
  have hx := B.exec
  have hb := B.bytes
  have hr := B.returns
  have hts := atoms_spec (ws := wsX9_stoneOf) B.pre
  have hown : s.vm.findClass RX9 = some m.cls := findClass_of_methodNamed B.named
  have hlocks := B.notSynchronized
  have hw0 := hts (.fieldLink RX9 106 "ParquetLayer" "latest" "LParquetLayer$Stone;") (by decide +kernel)
  have hi9 := ihX9_stoneOf_9
  have hD := hD0
  have hl := lv_entry ([.ref (a 0), .int x0]) (n := 3) (Nat.le_of_ble_eq_true rfl)
  rw [lg_entry_eq]
  generalize (lg_sl ([.ref (a 0), .int x0]) ++ List.replicate (3 - (lg_sl ([.ref (a 0), .int x0])).length) Slot.unset).toArray = ls at hl ⊢
  have hl : lv_has ls 3 [(0, .ref (a 0)), (1, .int x0)] := hl
  refine lv_aload_n hx hb dX9_stoneOf_0 rfl (lv_at hl 0 rfl) ?_
  refine va_get (D := D) (ci := 8) (v := .null) (C := RX9) (T := TX9) (N := 11) hx hb hts hi9 hown hK hP 0 rfl rfl 7 (by decide) hw0 (fun _ h9 => h9) rfl dX9_stoneOf_1 ?_
  refine lv_astore_nN (lv' := [(2, .null), (0, .ref (a 0)), (1, .int x0)]) hx hb dX9_stoneOf_4 rfl hl (by decide) rfl (fun ls hl => ?_)
  refine lv_aload_nN hx hb dX9_stoneOf_5 rfl (lv_at hl 0 rfl) ?_
  refine lv_ifnullN (tgt := 27) hx hb dX9_stoneOf_6 (by decide) ?_
  refine lv_null hx hb dX9_stoneOf_27 ?_
  exact pret_x hx hb hr hlocks (Or.inl ⟨_, rfl⟩) (Or.inl rfl) dX9_stoneOf_28
theorem a_stone_eq (k f : Int32) (b : Bool) (c : Int32) : a_stone k f b c = if g_isKind k && g_isField f && g_fits k c then (-100003) else (-100001) := by
  rw [g_isKind_eq, g_isField_eq]
  rfl
theorem dX9_has_0 : decode cX9_has 0 = .ok (.iload_n 1, 1) := by decide +kernel
set_option maxRecDepth 20000 in
theorem ggX9_has_X1_isField : GoodIn wsX9_has wsX1_isField := goodIn_r _ [6] (by decide +kernel) (by decide +kernel)
set_option maxRecDepth 20000 in
theorem gX9_has_X1_isField : GoodIn wsX9_has (va_wsS RX9 60 yX1_isField wsX1_isField) := goodIn_app (goodIn_of _ (by decide +kernel)) ggX9_has_X1_isField
theorem dX9_has_1 : decode cX9_has 1 = .ok (.invokestatic 60, 3) := by decide +kernel
theorem dX9_has_4 : decode cX9_has 4 = .ok (.ifCond .ne 10, 3) := by decide +kernel
theorem dX9_has_14 : decode cX9_has 14 = .ok (.aload_n 0, 1) := by decide +kernel
theorem dX9_has_15 : decode cX9_has 15 = .ok (.getfield 48, 3) := by decide +kernel
theorem dX9_has_18 : decode cX9_has 18 = .ok (.iload_n 1, 1) := by decide +kernel
set_option maxRecDepth 20000 in
theorem ggX9_has_X1_holds : GoodIn wsX9_has wsX1_holds := goodIn_r _ [15] (by decide +kernel) (by decide +kernel)
set_option maxRecDepth 20000 in
theorem gX9_has_X1_holds : GoodIn wsX9_has (va_wsS RX9 66 yX1_holds wsX1_holds) := goodIn_app (goodIn_of _ (by decide +kernel)) ggX9_has_X1_holds
theorem dX9_has_19 : decode cX9_has 19 = .ok (.invokestatic 66, 3) := by decide +kernel
set_option maxRecDepth 20000 in
theorem ggX9_has_X9_asNumber : GoodIn wsX9_has wsX9_asNumber := goodIn_r _ [18] (by decide +kernel) (by decide +kernel)
set_option maxRecDepth 20000 in
theorem gX9_has_X9_asNumber : GoodIn wsX9_has (va_wsS RX9 70 yX9_asNumber wsX9_asNumber) := goodIn_app (goodIn_of _ (by decide +kernel)) ggX9_has_X9_asNumber
theorem dX9_has_22 : decode cX9_has 22 = .ok (.invokestatic 70, 3) := by decide +kernel
theorem dX9_has_25 : decode cX9_has 25 = .ok (.ireturn, 1) := by decide +kernel
theorem dX9_has_7 : decode cX9_has 7 = .ok (.aload_n 0, 1) := by decide +kernel
theorem dX9_has_8 : decode cX9_has 8 = .ok (.ldc 43, 2) := by decide +kernel
set_option maxRecDepth 20000 in
theorem ggX9_has_X9_finding : GoodIn wsX9_has wsX9_finding := goodIn_r _ [11, 12, 19, 20, 21, 22, 23, 24, 25, 26, 27, 28, 29] (by decide +kernel) (by decide +kernel)
set_option maxRecDepth 20000 in
theorem gX9_has_X9_finding : GoodIn wsX9_has (wsV RX9 44 RX9 yX9_finding wsX9_finding) := goodIn_app (goodIn_of _ (by decide +kernel)) ggX9_has_X9_finding
theorem dX9_has_10 : decode cX9_has 10 = .ok (.invokevirtual 44, 3) := by decide +kernel
theorem dX9_has_13 : decode cX9_has 13 = .ok (.ireturn, 1) := by decide +kernel
set_option maxRecDepth 20000 in
theorem ihX9_has_9 : ∀ w ∈ u_ws RX9 TX9 11, w ∈ wsX9_has := by decide +kernel
set_option maxHeartbeats 4000000 in
set_option maxRecDepth 100000 in
theorem xp_X9_has (l : Launch) (D : va_G) (cy : Nat → ClassId) (a : Nat → Nat) (sz : Nat) (RO : Nat → Nat → Option Nat) (x0 : Int32) : Met l yX9_has wsX9_has ({ frames := 1, cells := 0, slots := 0, locals := 22 }) (va_Pc [.ref (a 0), .int x0] (PW D cy sz (CW cy a (fun _ => 0) (fun _ => 0) (va_up (fun _ => none) 100 (some (a 4))) (fun _ _ => 0) RO))) (va_Qi (fun r (_ : Unit) => r = a_fld x0 0) (fun _ _ => True) (va_A (CW cy a (fun _ => 0) (fun _ => 0) (va_up (fun _ => none) 100 (some (a 4))) (fun _ _ => 0) RO) sz)) 0 0 (va_A (CW cy a (fun _ => 0) (fun _ => 0) (va_up (fun _ => none) 100 (some (a 4))) (fun _ _ => 0) RO) sz) := by
  refine Met.ofW (cc := cX9_has) (maxL := 2) (ret := (some .int)) (by decide) rfl ?_
  intro p e s m args below meth c s₁ B hml hv
  obtain ⟨rfl, rfl, hP, hK, hN, hD0⟩ := hv
  have hx := B.exec
  have hb := B.bytes
  have hr := B.returns
  have hts := atoms_spec (ws := wsX9_has) B.pre
  have hown : s.vm.findClass RX9 = some m.cls := findClass_of_methodNamed B.named
  have hlocks := B.notSynchronized
  have hw0 := hts (.fieldLink RX9 48 "ParquetLayer" "fields" "J") (by decide +kernel)
  have hw1 := hts (.constant RX9 43 (-100001)) (by decide +kernel)
  have hi9 := ihX9_has_9
  have hD := hD0.self (sz := s.heap.size)
  generalize hAe : va_A (CW cy a (fun _ => 0) (fun _ => 0) (va_up (fun _ => none) 100 (some (a 4))) (fun _ _ => 0) RO) s.heap.size = A at hD ⊢
  have hA : ∀ q : Nat, s.heap.size ≤ q → A q := fun q h => by rw [← hAe]; exact Or.inr h
  have hS : va_S A s.heap s.heap [] := va_S.rf
  have hl := lv_entry ([.ref (a 0), .int x0]) (n := 2) (Nat.le_of_ble_eq_true rfl)
  rw [lg_entry_eq]
  generalize (lg_sl ([.ref (a 0), .int x0]) ++ List.replicate (2 - (lg_sl ([.ref (a 0), .int x0])).length) Slot.unset).toArray = ls at hl ⊢
  have hl : lv_has ls 2 [(0, .ref (a 0)), (1, .int x0)] := hl
  refine lv_iload_n hx hb dX9_has_0 rfl (lv_at hl 1 rfl) ?_
  refine kS_i (As := [.int x0]) (rest := []) ⟨hx, hb, hml, hown, hts⟩ (c_X1_isField l x0) (va_cwS 1 hts gX9_has_X1_isField rfl rfl rfl (by decide +kernel) ⟨Nat.le_of_ble_eq_true rfl, Nat.le_of_ble_eq_true rfl⟩) rfl hl.1 rfl (Nat.le_of_ble_eq_true rfl) dX9_has_1 ⟨Nat.le_of_ble_eq_true rfl, Nat.le_of_ble_eq_true rfl⟩ ?_
  refine lv_if_ne (tgt := 14) hx hb dX9_has_4 (by decide) (fun c_1 => ?_) (fun c_1 => ?_)
  · replace c_1 := bI_t c_1
    refine lv_aload_n hx hb dX9_has_14 rfl (lv_at hl 0 rfl) ?_
    refine va_get (D := D) (ci := 8) (v := .long 0) (C := RX9) (T := TX9) (N := 11) hx hb hts hi9 hown hK hP 0 rfl rfl 6 (by decide) hw0 (fun _ h9 => h9) rfl dX9_has_15 ?_
    refine lv_iload_n hx hb dX9_has_18 rfl (lv_at hl 1 rfl) ?_
    refine kS_i (As := [.long 0, .int x0]) (rest := []) ⟨hx, hb, hml, hown, hts⟩ (c_X1_holds l 0 x0) (va_cwS 2 hts gX9_has_X1_holds rfl rfl rfl (by decide +kernel) ⟨Nat.le_of_ble_eq_true rfl, Nat.le_of_ble_eq_true rfl⟩) rfl hl.1 rfl (Nat.le_of_ble_eq_true rfl) dX9_has_19 ⟨Nat.le_of_ble_eq_true rfl, Nat.le_of_ble_eq_true rfl⟩ ?_
    refine wtop_i (y := 0) (by rw [g_holds0]; rfl) ?_
    refine kS_i (As := [.int 0]) (rest := []) ⟨hx, hb, hml, hown, hts⟩ (c_X9_asNumber l false) (va_cwS 1 hts gX9_has_X9_asNumber rfl rfl rfl (by decide +kernel) ⟨Nat.le_of_ble_eq_true rfl, Nat.le_of_ble_eq_true rfl⟩) rfl hl.1 rfl (Nat.le_of_ble_eq_true rfl) dX9_has_22 ⟨Nat.le_of_ble_eq_true rfl, Nat.le_of_ble_eq_true rfl⟩ ?_
    exact qret_i hx hb hr hlocks (by simp [a_fld, bI, ← g_isField_eq, c_1]) hS dX9_has_25
  · replace c_1 := bI_f c_1
    refine lv_aload_n hx hb dX9_has_7 rfl (lv_at hl 0 rfl) ?_
    refine lv_ldc (v := (-100001)) hx hb hown hw1 dX9_has_8 ?_
    refine kM_i (As := [.int (-100001)]) (rest := []) (q0 := 0) ⟨hx, hb, hml, hown, hts⟩ (c_X9_finding l D cy a _ (fun _ => 0) (fun _ => 0) (va_up (fun _ => none) 100 (some (a 4))) (fun _ _ => 0) RO (-100001) ) (cwV 1 hts gX9_has_X9_finding rfl rfl rfl (by decide +kernel) ⟨Nat.le_of_ble_eq_true rfl, Nat.le_of_ble_eq_true rfl⟩) hK hN hP hD hS hA rfl rfl rfl hl.1 rfl (Nat.le_of_ble_eq_true rfl) dX9_has_10 ⟨Nat.le_of_ble_eq_true rfl, Nat.le_of_ble_eq_true rfl⟩ (fun r u H locs hw hP hD hS => ?_)
    obtain ⟨rfl, rfl⟩ := hw
    have hP : va_P D vwCl (CW cy a (fun _ => 0) (va_up (fun _ => 0) 10 (0 + 1)) (va_up (fun _ => none) 100 (some (a 4))) (fun _ _ => 0) RO) H := hP
    have hD : va_D A (CW cy a (fun _ => 0) (va_up (fun _ => 0) 10 (0 + 1)) (va_up (fun _ => none) 100 (some (a 4))) (fun _ _ => 0) RO) := hD
    exact qret_i hx hb hr hlocks (by simp [a_fld, bI, ← g_isField_eq, c_1]) hS dX9_has_13
theorem dX9_floor_0 : decode cX9_floor 0 = .ok (.iload_n 1, 1) := by decide +kernel
theorem dX9_floor_1 : decode cX9_floor 1 = .ok (.tableswitch 67 0 3 #[31, 39, 51, 59], 31) := by decide +kernel
theorem dX9_floor_32 : decode cX9_floor 32 = .ok (.aload_n 0, 1) := by decide +kernel
theorem dX9_floor_33 : decode cX9_floor 33 = .ok (.getfield 48, 3) := by decide +kernel
set_option maxRecDepth 20000 in
theorem ggX9_floor_J13_bitCount_95d88 : GoodIn wsX9_floor wsJ13_bitCount_95d88 := goodIn_r _ [7, 8, 9, 10] (by decide +kernel) (by decide +kernel)
set_option maxRecDepth 20000 in
theorem gX9_floor_J13_bitCount_95d88 : GoodIn wsX9_floor (va_wsS RX9 74 yJ13_bitCount_95d88 wsJ13_bitCount_95d88) := goodIn_app (goodIn_of _ (by decide +kernel)) ggX9_floor_J13_bitCount_95d88
theorem dX9_floor_36 : decode cX9_floor 36 = .ok (.invokestatic 74, 3) := by decide +kernel
theorem dX9_floor_39 : decode cX9_floor 39 = .ok (.ireturn, 1) := by decide +kernel
theorem dX9_floor_40 : decode cX9_floor 40 = .ok (.aload_n 0, 1) := by decide +kernel
theorem dX9_floor_41 : decode cX9_floor 41 = .ok (.getfield 48, 3) := by decide +kernel
theorem dX9_floor_44 : decode cX9_floor 44 = .ok (.ldc2_w 79, 3) := by decide +kernel
theorem dX9_floor_47 : decode cX9_floor 47 = .ok (.land, 1) := by decide +kernel
theorem dX9_floor_48 : decode cX9_floor 48 = .ok (.invokestatic 74, 3) := by decide +kernel
theorem dX9_floor_51 : decode cX9_floor 51 = .ok (.ireturn, 1) := by decide +kernel
theorem dX9_floor_52 : decode cX9_floor 52 = .ok (.aload_n 0, 1) := by decide +kernel
theorem dX9_floor_53 : decode cX9_floor 53 = .ok (.getfield 48, 3) := by decide +kernel
set_option maxRecDepth 20000 in
theorem ggX9_floor_X1_pieces : GoodIn wsX9_floor wsX1_pieces := goodIn_r _ [14, 15, 16, 17, 13, 18, 19, 20, 21, 22, 23, 24, 25, 26] (by decide +kernel) (by decide +kernel)
set_option maxRecDepth 20000 in
theorem gX9_floor_X1_pieces : GoodIn wsX9_floor (va_wsS RX9 81 yX1_pieces wsX1_pieces) := goodIn_app (goodIn_of _ (by decide +kernel)) ggX9_floor_X1_pieces
theorem dX9_floor_56 : decode cX9_floor 56 = .ok (.invokestatic 81, 3) := by decide +kernel
theorem dX9_floor_59 : decode cX9_floor 59 = .ok (.ireturn, 1) := by decide +kernel
theorem dX9_floor_60 : decode cX9_floor 60 = .ok (.aload_n 0, 1) := by decide +kernel
set_option maxRecDepth 20000 in
theorem ggX9_floor_X9_isWhole : GoodIn wsX9_floor wsX9_isWhole := goodIn_r _ [31, 1, 32, 33, 34, 30, 35, 36, 37, 38, 39, 40, 41, 42, 43, 44, 45, 46, 47, 48, 13, 49, 50, 15, 51, 12, 14, 16, 17, 18, 19, 20, 21, 22, 23, 24, 25, 26, 60, 61, 62, 63, 64, 65, 66, 67, 68, 69, 70, 71, 72, 73, 74, 75, 76, 77] (by decide +kernel) (by decide +kernel)
set_option maxRecDepth 20000 in
theorem gX9_floor_X9_isWhole : GoodIn wsX9_floor (wsV RX9 84 RX9 yX9_isWhole wsX9_isWhole) := goodIn_app (goodIn_of _ (by decide +kernel)) ggX9_floor_X9_isWhole
theorem dX9_floor_61 : decode cX9_floor 61 = .ok (.invokevirtual 84, 3) := by decide +kernel
set_option maxRecDepth 20000 in
theorem ggX9_floor_X9_asNumber : GoodIn wsX9_floor wsX9_asNumber := goodIn_r _ [54] (by decide +kernel) (by decide +kernel)
set_option maxRecDepth 20000 in
theorem gX9_floor_X9_asNumber : GoodIn wsX9_floor (va_wsS RX9 70 yX9_asNumber wsX9_asNumber) := goodIn_app (goodIn_of _ (by decide +kernel)) ggX9_floor_X9_asNumber
theorem dX9_floor_64 : decode cX9_floor 64 = .ok (.invokestatic 70, 3) := by decide +kernel
theorem dX9_floor_67 : decode cX9_floor 67 = .ok (.ireturn, 1) := by decide +kernel
theorem dX9_floor_68 : decode cX9_floor 68 = .ok (.aload_n 0, 1) := by decide +kernel
theorem dX9_floor_69 : decode cX9_floor 69 = .ok (.ldc 43, 2) := by decide +kernel
set_option maxRecDepth 20000 in
theorem ggX9_floor_X9_finding : GoodIn wsX9_floor wsX9_finding := goodIn_r _ [58, 59, 60, 61, 62, 63, 64, 65, 66, 67, 68, 69, 70] (by decide +kernel) (by decide +kernel)
set_option maxRecDepth 20000 in
theorem gX9_floor_X9_finding : GoodIn wsX9_floor (wsV RX9 44 RX9 yX9_finding wsX9_finding) := goodIn_app (goodIn_of _ (by decide +kernel)) ggX9_floor_X9_finding
theorem dX9_floor_71 : decode cX9_floor 71 = .ok (.invokevirtual 44, 3) := by decide +kernel
theorem dX9_floor_74 : decode cX9_floor 74 = .ok (.ireturn, 1) := by decide +kernel
set_option maxRecDepth 20000 in
theorem ihX9_floor_9 : ∀ w ∈ u_ws RX9 TX9 11, w ∈ wsX9_floor := by decide +kernel
set_option maxHeartbeats 4000000 in
set_option maxRecDepth 100000 in
theorem xp_X9_floor (l : Launch) (D : va_G) (cy : Nat → ClassId) (a : Nat → Nat) (sz : Nat) (RO : Nat → Nat → Option Nat) (x0 : Int32) : Met l yX9_floor wsX9_floor ({ frames := 4, cells := 0, slots := 0, locals := 88 }) (va_Pc [.ref (a 0), .int x0] (PW D cy sz (CW cy a (fun _ => 0) (fun _ => 0) (va_up (fun _ => none) 100 (some (a 4))) (fun _ _ => 0) RO))) (va_Qi (fun r (_ : Unit) => r = a_w3 x0) (fun _ _ => True) (va_A (CW cy a (fun _ => 0) (fun _ => 0) (va_up (fun _ => none) 100 (some (a 4))) (fun _ _ => 0) RO) sz)) 0 0 (va_A (CW cy a (fun _ => 0) (fun _ => 0) (va_up (fun _ => none) 100 (some (a 4))) (fun _ _ => 0) RO) sz) := by
  refine Met.ofW (cc := cX9_floor) (maxL := 2) (ret := (some .int)) (by decide) rfl ?_
  intro p e s m args below meth c s₁ B hml hv
  obtain ⟨rfl, rfl, hP, hK, hN, hD0⟩ := hv
  have hx := B.exec
  have hb := B.bytes
  have hr := B.returns
  have hts := atoms_spec (ws := wsX9_floor) B.pre
  have hown : s.vm.findClass RX9 = some m.cls := findClass_of_methodNamed B.named
  have hlocks := B.notSynchronized
  have hw0 := hts (.fieldLink RX9 48 "ParquetLayer" "fields" "J") (by decide +kernel)
  have hw1 := hts (.constantLong RX9 79 (-6172840429334713771)) (by decide +kernel)
  have hw2 := hts (.constant RX9 43 (-100001)) (by decide +kernel)
  have hi9 := ihX9_floor_9
  have hD := hD0.self (sz := s.heap.size)
  generalize hAe : va_A (CW cy a (fun _ => 0) (fun _ => 0) (va_up (fun _ => none) 100 (some (a 4))) (fun _ _ => 0) RO) s.heap.size = A at hD ⊢
  have hA : ∀ q : Nat, s.heap.size ≤ q → A q := fun q h => by rw [← hAe]; exact Or.inr h
  have hS : va_S A s.heap s.heap [] := va_S.rf
  have hl := lv_entry ([.ref (a 0), .int x0]) (n := 2) (Nat.le_of_ble_eq_true rfl)
  rw [lg_entry_eq]
  generalize (lg_sl ([.ref (a 0), .int x0]) ++ List.replicate (2 - (lg_sl ([.ref (a 0), .int x0])).length) Slot.unset).toArray = ls at hl ⊢
  have hl : lv_has ls 2 [(0, .ref (a 0)), (1, .int x0)] := hl
  refine lv_iload_n hx hb dX9_floor_0 rfl (lv_at hl 1 rfl) ?_
  by_cases c_1 : x0 = 0
  · refine lv_tableIn (off := 31) (tgt := 32) hx hb dX9_floor_1 (by rw [c_1]; decide) (by rw [c_1]; decide) (by rw [c_1]; rfl) (by decide) ?_
    refine lv_aload_n hx hb dX9_floor_32 rfl (lv_at hl 0 rfl) ?_
    refine va_get (D := D) (ci := 8) (v := .long 0) (C := RX9) (T := TX9) (N := 11) hx hb hts hi9 hown hK hP 0 rfl rfl 6 (by decide) hw0 (fun _ h9 => h9) rfl dX9_floor_33 ?_
    refine kS_i (As := [.long 0]) (rest := []) ⟨hx, hb, hml, hown, hts⟩ (c_J13_bitCount_95d88 l 0) (va_cwS 1 hts gX9_floor_J13_bitCount_95d88 rfl rfl rfl (by decide +kernel) ⟨Nat.le_of_ble_eq_true rfl, Nat.le_of_ble_eq_true rfl⟩) rfl hl.1 rfl (Nat.le_of_ble_eq_true rfl) dX9_floor_36 ⟨Nat.le_of_ble_eq_true rfl, Nat.le_of_ble_eq_true rfl⟩ ?_
    exact qret_i hx hb hr hlocks (by rw [c_1]; decide) hS dX9_floor_39
  by_cases c_2 : x0 = 1
  · refine lv_tableIn (off := 39) (tgt := 40) hx hb dX9_floor_1 (by rw [c_2]; decide) (by rw [c_2]; decide) (by rw [c_2]; rfl) (by decide) ?_
    refine lv_aload_n hx hb dX9_floor_40 rfl (lv_at hl 0 rfl) ?_
    refine va_get (D := D) (ci := 8) (v := .long 0) (C := RX9) (T := TX9) (N := 11) hx hb hts hi9 hown hK hP 0 rfl rfl 6 (by decide) hw0 (fun _ h9 => h9) rfl dX9_floor_41 ?_
    refine lv_ldc2 (v := (-6172840429334713771)) hx hb hown hw1 dX9_floor_44 ?_
    refine lv_land hx hb dX9_floor_47 ?_
    refine wtop_l (y := 0) (by decide) ?_
    refine kS_i (As := [.long 0]) (rest := []) ⟨hx, hb, hml, hown, hts⟩ (c_J13_bitCount_95d88 l 0) (va_cwS 1 hts gX9_floor_J13_bitCount_95d88 rfl rfl rfl (by decide +kernel) ⟨Nat.le_of_ble_eq_true rfl, Nat.le_of_ble_eq_true rfl⟩) rfl hl.1 rfl (Nat.le_of_ble_eq_true rfl) dX9_floor_48 ⟨Nat.le_of_ble_eq_true rfl, Nat.le_of_ble_eq_true rfl⟩ ?_
    exact qret_i hx hb hr hlocks (by rw [c_2]; decide) hS dX9_floor_51
  by_cases c_3 : x0 = 2
  · refine lv_tableIn (off := 51) (tgt := 52) hx hb dX9_floor_1 (by rw [c_3]; decide) (by rw [c_3]; decide) (by rw [c_3]; rfl) (by decide) ?_
    refine lv_aload_n hx hb dX9_floor_52 rfl (lv_at hl 0 rfl) ?_
    refine va_get (D := D) (ci := 8) (v := .long 0) (C := RX9) (T := TX9) (N := 11) hx hb hts hi9 hown hK hP 0 rfl rfl 6 (by decide) hw0 (fun _ h9 => h9) rfl dX9_floor_53 ?_
    refine kS_i (As := [.long 0]) (rest := []) ⟨hx, hb, hml, hown, hts⟩ (c_X1_pieces0 l ) (va_cwS 1 hts gX9_floor_X1_pieces rfl rfl rfl (by decide +kernel) ⟨Nat.le_of_ble_eq_true rfl, Nat.le_of_ble_eq_true rfl⟩) rfl hl.1 rfl (Nat.le_of_ble_eq_true rfl) dX9_floor_56 ⟨Nat.le_of_ble_eq_true rfl, Nat.le_of_ble_eq_true rfl⟩ ?_
    exact qret_i hx hb hr hlocks (by rw [c_3]; decide) hS dX9_floor_59
  by_cases c_4 : x0 = 3
  · refine lv_tableIn (off := 59) (tgt := 60) hx hb dX9_floor_1 (by rw [c_4]; decide) (by rw [c_4]; decide) (by rw [c_4]; rfl) (by decide) ?_
    refine lv_aload_n hx hb dX9_floor_60 rfl (lv_at hl 0 rfl) ?_
    refine kR_i (As := []) (rest := []) (q0 := 0) ⟨hx, hb, hml, hown, hts⟩ (c_X9_isWhole l D cy a _ RO  ) (cwV 0 hts gX9_floor_X9_isWhole rfl rfl rfl (by decide +kernel) ⟨Nat.le_of_ble_eq_true rfl, Nat.le_of_ble_eq_true rfl⟩) hK hN hP hD rfl rfl rfl hl.1 rfl (Nat.le_of_ble_eq_true rfl) dX9_floor_61 ⟨Nat.le_of_ble_eq_true rfl, Nat.le_of_ble_eq_true rfl⟩ ?_
    refine kS_i (As := [.int 0]) (rest := []) ⟨hx, hb, hml, hown, hts⟩ (c_X9_asNumber l false) (va_cwS 1 hts gX9_floor_X9_asNumber rfl rfl rfl (by decide +kernel) ⟨Nat.le_of_ble_eq_true rfl, Nat.le_of_ble_eq_true rfl⟩) rfl hl.1 rfl (Nat.le_of_ble_eq_true rfl) dX9_floor_64 ⟨Nat.le_of_ble_eq_true rfl, Nat.le_of_ble_eq_true rfl⟩ ?_
    exact qret_i hx hb hr hlocks (by rw [c_4]; decide) hS dX9_floor_67
  refine lv_tableOut (tgt := 68) hx hb dX9_floor_1 (sw_out 0 3 (by decide) (by decide) (fun k hk1 hk2 => by have hq : k = 0 ∨ k = 1 ∨ k = 2 ∨ k = 3 := (by omega); rcases hq with rfl | rfl | rfl | rfl <;> assumption)) (by decide) ?_
  refine lv_aload_n hx hb dX9_floor_68 rfl (lv_at hl 0 rfl) ?_
  refine lv_ldc (v := (-100001)) hx hb hown hw2 dX9_floor_69 ?_
  refine kM_i (As := [.int (-100001)]) (rest := []) (q0 := 0) ⟨hx, hb, hml, hown, hts⟩ (c_X9_finding l D cy a _ (fun _ => 0) (fun _ => 0) (va_up (fun _ => none) 100 (some (a 4))) (fun _ _ => 0) RO (-100001) ) (cwV 1 hts gX9_floor_X9_finding rfl rfl rfl (by decide +kernel) ⟨Nat.le_of_ble_eq_true rfl, Nat.le_of_ble_eq_true rfl⟩) hK hN hP hD hS hA rfl rfl rfl hl.1 rfl (Nat.le_of_ble_eq_true rfl) dX9_floor_71 ⟨Nat.le_of_ble_eq_true rfl, Nat.le_of_ble_eq_true rfl⟩ (fun r u H locs hw hP hD hS => ?_)
  obtain ⟨rfl, rfl⟩ := hw
  have hP : va_P D vwCl (CW cy a (fun _ => 0) (va_up (fun _ => 0) 10 (0 + 1)) (va_up (fun _ => none) 100 (some (a 4))) (fun _ _ => 0) RO) H := hP
  have hD : va_D A (CW cy a (fun _ => 0) (va_up (fun _ => 0) 10 (0 + 1)) (va_up (fun _ => none) 100 (some (a 4))) (fun _ _ => 0) RO) := hD
  exact qret_i hx hb hr hlocks (by rw [a_w3, w3_out c_1 c_2 c_3 c_4]; rfl) hS dX9_floor_74
theorem dX9_all_0 : decode cX9_all 0 = .ok (.iload_n 1, 1) := by decide +kernel
theorem dX9_all_1 : decode cX9_all 1 = .ok (.tableswitch 62 0 3 #[31, 36, 41, 57], 31) := by decide +kernel
theorem dX9_all_32 : decode cX9_all 32 = .ok (.aload_n 0, 1) := by decide +kernel
set_option maxRecDepth 20000 in
theorem ggX9_all_X9_stoneCount : GoodIn wsX9_all wsX9_stoneCount := goodIn_r _ [8, 9, 10, 31, 32, 33, 34, 35, 36, 37, 38, 39, 40, 41, 42, 43, 44, 45, 46, 47, 48] (by decide +kernel) (by decide +kernel)
set_option maxRecDepth 20000 in
theorem gX9_all_X9_stoneCount : GoodIn wsX9_all (wsV RX9 100 RX9 yX9_stoneCount wsX9_stoneCount) := goodIn_app (goodIn_of _ (by decide +kernel)) ggX9_all_X9_stoneCount
theorem dX9_all_33 : decode cX9_all 33 = .ok (.invokevirtual 100, 3) := by decide +kernel
theorem dX9_all_36 : decode cX9_all 36 = .ok (.ireturn, 1) := by decide +kernel
theorem dX9_all_37 : decode cX9_all 37 = .ok (.aload_n 0, 1) := by decide +kernel
set_option maxRecDepth 20000 in
theorem ggX9_all_X9_gluedCount : GoodIn wsX9_all wsX9_gluedCount := goodIn_r _ [14, 9, 15, 16, 17, 18, 19, 20, 21, 22, 7, 23, 24, 25, 26, 31, 32, 33, 34, 35, 36, 37, 38, 39, 40, 41, 42, 43, 44, 45, 46, 47, 48] (by decide +kernel) (by decide +kernel)
set_option maxRecDepth 20000 in
theorem gX9_all_X9_gluedCount : GoodIn wsX9_all (wsV RX9 320 RX9 yX9_gluedCount wsX9_gluedCount) := goodIn_app (goodIn_of _ (by decide +kernel)) ggX9_all_X9_gluedCount
theorem dX9_all_38 : decode cX9_all 38 = .ok (.invokevirtual 320, 3) := by decide +kernel
theorem dX9_all_41 : decode cX9_all 41 = .ok (.ireturn, 1) := by decide +kernel
theorem dX9_all_42 : decode cX9_all 42 = .ok (.aload_n 0, 1) := by decide +kernel
theorem dX9_all_43 : decode cX9_all 43 = .ok (.getfield 133, 3) := by decide +kernel
theorem dX9_all_46 : decode cX9_all 46 = .ok (.ifnull 7, 3) := by decide +kernel
theorem dX9_all_53 : decode cX9_all 53 = .ok (.iconst 0, 1) := by decide +kernel
set_option maxRecDepth 20000 in
theorem ggX9_all_X9_asNumber : GoodIn wsX9_all wsX9_asNumber := goodIn_r _ [26] (by decide +kernel) (by decide +kernel)
set_option maxRecDepth 20000 in
theorem gX9_all_X9_asNumber : GoodIn wsX9_all (va_wsS RX9 70 yX9_asNumber wsX9_asNumber) := goodIn_app (goodIn_of _ (by decide +kernel)) ggX9_all_X9_asNumber
theorem dX9_all_54 : decode cX9_all 54 = .ok (.invokestatic 70, 3) := by decide +kernel
theorem dX9_all_57 : decode cX9_all 57 = .ok (.ireturn, 1) := by decide +kernel
theorem dX9_all_58 : decode cX9_all 58 = .ok (.aload_n 0, 1) := by decide +kernel
theorem dX9_all_59 : decode cX9_all 59 = .ok (.getfield 323, 3) := by decide +kernel
theorem dX9_all_62 : decode cX9_all 62 = .ok (.ireturn, 1) := by decide +kernel
theorem dX9_all_63 : decode cX9_all 63 = .ok (.aload_n 0, 1) := by decide +kernel
theorem dX9_all_64 : decode cX9_all 64 = .ok (.ldc 43, 2) := by decide +kernel
set_option maxRecDepth 20000 in
theorem ggX9_all_X9_finding : GoodIn wsX9_all wsX9_finding := goodIn_r _ [30, 2, 31, 32, 33, 34, 35, 36, 37, 38, 39, 40, 41] (by decide +kernel) (by decide +kernel)
set_option maxRecDepth 20000 in
theorem gX9_all_X9_finding : GoodIn wsX9_all (wsV RX9 44 RX9 yX9_finding wsX9_finding) := goodIn_app (goodIn_of _ (by decide +kernel)) ggX9_all_X9_finding
theorem dX9_all_66 : decode cX9_all 66 = .ok (.invokevirtual 44, 3) := by decide +kernel
theorem dX9_all_69 : decode cX9_all 69 = .ok (.ireturn, 1) := by decide +kernel
set_option maxRecDepth 20000 in
theorem ihX9_all_9 : ∀ w ∈ u_ws RX9 TX9 11, w ∈ wsX9_all := by decide +kernel
set_option maxHeartbeats 4000000 in
set_option maxRecDepth 100000 in
theorem xp_X9_all (l : Launch) (D : va_G) (cy : Nat → ClassId) (a : Nat → Nat) (sz : Nat) (RO : Nat → Nat → Option Nat) (x0 : Int32) : Met l yX9_all wsX9_all ({ frames := 1, cells := 0, slots := 0, locals := 22 }) (va_Pc [.ref (a 0), .int x0] (PW D cy sz (CW cy a (fun _ => 0) (fun _ => 0) (va_up (fun _ => none) 100 (some (a 4))) (fun _ _ => 0) RO))) (va_Qi (fun r (_ : Unit) => r = a_w3 x0) (fun _ _ => True) (va_A (CW cy a (fun _ => 0) (fun _ => 0) (va_up (fun _ => none) 100 (some (a 4))) (fun _ _ => 0) RO) sz)) 0 0 (va_A (CW cy a (fun _ => 0) (fun _ => 0) (va_up (fun _ => none) 100 (some (a 4))) (fun _ _ => 0) RO) sz) := by
  refine Met.ofW (cc := cX9_all) (maxL := 2) (ret := (some .int)) (by decide) rfl ?_
  intro p e s m args below meth c s₁ B hml hv
  obtain ⟨rfl, rfl, hP, hK, hN, hD0⟩ := hv
  have hx := B.exec
  have hb := B.bytes
  have hr := B.returns
  have hts := atoms_spec (ws := wsX9_all) B.pre
  have hown : s.vm.findClass RX9 = some m.cls := findClass_of_methodNamed B.named
  have hlocks := B.notSynchronized
  have hw0 := hts (.fieldLink RX9 133 "ParquetLayer" "hand" "LParquetLayer$Laying;") (by decide +kernel)
  have hw1 := hts (.fieldLink RX9 323 "ParquetLayer" "findings" "I") (by decide +kernel)
  have hw2 := hts (.constant RX9 43 (-100001)) (by decide +kernel)
  have hi9 := ihX9_all_9
  have hD := hD0.self (sz := s.heap.size)
  generalize hAe : va_A (CW cy a (fun _ => 0) (fun _ => 0) (va_up (fun _ => none) 100 (some (a 4))) (fun _ _ => 0) RO) s.heap.size = A at hD ⊢
  have hA : ∀ q : Nat, s.heap.size ≤ q → A q := fun q h => by rw [← hAe]; exact Or.inr h
  have hS : va_S A s.heap s.heap [] := va_S.rf
  have hl := lv_entry ([.ref (a 0), .int x0]) (n := 2) (Nat.le_of_ble_eq_true rfl)
  rw [lg_entry_eq]
  generalize (lg_sl ([.ref (a 0), .int x0]) ++ List.replicate (2 - (lg_sl ([.ref (a 0), .int x0])).length) Slot.unset).toArray = ls at hl ⊢
  have hl : lv_has ls 2 [(0, .ref (a 0)), (1, .int x0)] := hl
  refine lv_iload_n hx hb dX9_all_0 rfl (lv_at hl 1 rfl) ?_
  by_cases c_1 : x0 = 0
  · refine lv_tableIn (off := 31) (tgt := 32) hx hb dX9_all_1 (by rw [c_1]; decide) (by rw [c_1]; decide) (by rw [c_1]; rfl) (by decide) ?_
    refine lv_aload_n hx hb dX9_all_32 rfl (lv_at hl 0 rfl) ?_
    refine kR_i (As := []) (rest := []) (q0 := 0) ⟨hx, hb, hml, hown, hts⟩ (c_X9_stoneCount l D cy a _ RO  ) (cwV 0 hts gX9_all_X9_stoneCount rfl rfl rfl (by decide +kernel) ⟨Nat.le_of_ble_eq_true rfl, Nat.le_of_ble_eq_true rfl⟩) hK hN hP hD rfl rfl rfl hl.1 rfl (Nat.le_of_ble_eq_true rfl) dX9_all_33 ⟨Nat.le_of_ble_eq_true rfl, Nat.le_of_ble_eq_true rfl⟩ ?_
    exact qret_i hx hb hr hlocks (by rw [c_1]; decide) hS dX9_all_36
  by_cases c_2 : x0 = 1
  · refine lv_tableIn (off := 36) (tgt := 37) hx hb dX9_all_1 (by rw [c_2]; decide) (by rw [c_2]; decide) (by rw [c_2]; rfl) (by decide) ?_
    refine lv_aload_n hx hb dX9_all_37 rfl (lv_at hl 0 rfl) ?_
    refine kR_i (As := []) (rest := []) (q0 := 0) ⟨hx, hb, hml, hown, hts⟩ (c_X9_gluedCount l D cy a _ RO  ) (cwV 0 hts gX9_all_X9_gluedCount rfl rfl rfl (by decide +kernel) ⟨Nat.le_of_ble_eq_true rfl, Nat.le_of_ble_eq_true rfl⟩) hK hN hP hD rfl rfl rfl hl.1 rfl (Nat.le_of_ble_eq_true rfl) dX9_all_38 ⟨Nat.le_of_ble_eq_true rfl, Nat.le_of_ble_eq_true rfl⟩ ?_
    exact qret_i hx hb hr hlocks (by rw [c_2]; decide) hS dX9_all_41
  by_cases c_3 : x0 = 2
  · refine lv_tableIn (off := 41) (tgt := 42) hx hb dX9_all_1 (by rw [c_3]; decide) (by rw [c_3]; decide) (by rw [c_3]; rfl) (by decide) ?_
    refine lv_aload_n hx hb dX9_all_42 rfl (lv_at hl 0 rfl) ?_
    refine va_get (D := D) (ci := 8) (v := .null) (C := RX9) (T := TX9) (N := 11) hx hb hts hi9 hown hK hP 0 rfl rfl 8 (by decide) hw0 (fun _ h9 => h9) rfl dX9_all_43 ?_
    refine lv_ifnullN (tgt := 53) hx hb dX9_all_46 (by decide) ?_
    refine lv_iconst (v := 0) hx hb dX9_all_53 (by decide) ?_
    refine kS_i (As := [.int 0]) (rest := []) ⟨hx, hb, hml, hown, hts⟩ (c_X9_asNumber l false) (va_cwS 1 hts gX9_all_X9_asNumber rfl rfl rfl (by decide +kernel) ⟨Nat.le_of_ble_eq_true rfl, Nat.le_of_ble_eq_true rfl⟩) rfl hl.1 rfl (Nat.le_of_ble_eq_true rfl) dX9_all_54 ⟨Nat.le_of_ble_eq_true rfl, Nat.le_of_ble_eq_true rfl⟩ ?_
    exact qret_i hx hb hr hlocks (by rw [c_3]; decide) hS dX9_all_57
  by_cases c_4 : x0 = 3
  · refine lv_tableIn (off := 57) (tgt := 58) hx hb dX9_all_1 (by rw [c_4]; decide) (by rw [c_4]; decide) (by rw [c_4]; rfl) (by decide) ?_
    refine lv_aload_n hx hb dX9_all_58 rfl (lv_at hl 0 rfl) ?_
    refine va_get (D := D) (ci := 8) (v := .int 0) (C := RX9) (T := TX9) (N := 11) hx hb hts hi9 hown hK hP 0 rfl rfl 10 (by decide) hw1 (fun _ h9 => h9) rfl dX9_all_59 ?_
    exact qret_i hx hb hr hlocks (by rw [c_4]; decide) hS dX9_all_62
  refine lv_tableOut (tgt := 63) hx hb dX9_all_1 (sw_out 0 3 (by decide) (by decide) (fun k hk1 hk2 => by have hq : k = 0 ∨ k = 1 ∨ k = 2 ∨ k = 3 := (by omega); rcases hq with rfl | rfl | rfl | rfl <;> assumption)) (by decide) ?_
  refine lv_aload_n hx hb dX9_all_63 rfl (lv_at hl 0 rfl) ?_
  refine lv_ldc (v := (-100001)) hx hb hown hw2 dX9_all_64 ?_
  refine kM_i (As := [.int (-100001)]) (rest := []) (q0 := 0) ⟨hx, hb, hml, hown, hts⟩ (c_X9_finding l D cy a _ (fun _ => 0) (fun _ => 0) (va_up (fun _ => none) 100 (some (a 4))) (fun _ _ => 0) RO (-100001) ) (cwV 1 hts gX9_all_X9_finding rfl rfl rfl (by decide +kernel) ⟨Nat.le_of_ble_eq_true rfl, Nat.le_of_ble_eq_true rfl⟩) hK hN hP hD hS hA rfl rfl rfl hl.1 rfl (Nat.le_of_ble_eq_true rfl) dX9_all_66 ⟨Nat.le_of_ble_eq_true rfl, Nat.le_of_ble_eq_true rfl⟩ (fun r u H locs hw hP hD hS => ?_)
  obtain ⟨rfl, rfl⟩ := hw
  have hP : va_P D vwCl (CW cy a (fun _ => 0) (va_up (fun _ => 0) 10 (0 + 1)) (va_up (fun _ => none) 100 (some (a 4))) (fun _ _ => 0) RO) H := hP
  have hD : va_D A (CW cy a (fun _ => 0) (va_up (fun _ => 0) 10 (0 + 1)) (va_up (fun _ => none) 100 (some (a 4))) (fun _ _ => 0) RO) := hD
  exact qret_i hx hb hr hlocks (by rw [a_w3, w3_out c_1 c_2 c_3 c_4]; rfl) hS dX9_all_69
theorem dX9_stone_0 : decode cX9_stone 0 = .ok (.iload_n 1, 1) := by decide +kernel
set_option maxRecDepth 20000 in
theorem ggX9_stone_X9_isKind : GoodIn wsX9_stone wsX9_isKind := goodIn_r _ [16] (by decide +kernel) (by decide +kernel)
set_option maxRecDepth 20000 in
theorem gX9_stone_X9_isKind : GoodIn wsX9_stone (va_wsS RX9 88 yX9_isKind wsX9_isKind) := goodIn_app (goodIn_of _ (by decide +kernel)) ggX9_stone_X9_isKind
theorem dX9_stone_1 : decode cX9_stone 1 = .ok (.invokestatic 88, 3) := by decide +kernel
theorem dX9_stone_4 : decode cX9_stone 4 = .ok (.ifCond .eq 19, 3) := by decide +kernel
theorem dX9_stone_23 : decode cX9_stone 23 = .ok (.aload_n 0, 1) := by decide +kernel
theorem dX9_stone_24 : decode cX9_stone 24 = .ok (.ldc 43, 2) := by decide +kernel
set_option maxRecDepth 20000 in
theorem ggX9_stone_X9_finding : GoodIn wsX9_stone wsX9_finding := goodIn_r _ [27, 28, 100, 101, 102, 103, 104, 105, 106, 107, 108, 109, 110] (by decide +kernel) (by decide +kernel)
set_option maxRecDepth 20000 in
theorem gX9_stone_X9_finding : GoodIn wsX9_stone (wsV RX9 44 RX9 yX9_finding wsX9_finding) := goodIn_app (goodIn_of _ (by decide +kernel)) ggX9_stone_X9_finding
theorem dX9_stone_26 : decode cX9_stone 26 = .ok (.invokevirtual 44, 3) := by decide +kernel
theorem dX9_stone_29 : decode cX9_stone 29 = .ok (.ireturn, 1) := by decide +kernel
theorem dX9_stone_7 : decode cX9_stone 7 = .ok (.iload_n 2, 1) := by decide +kernel
set_option maxRecDepth 20000 in
theorem ggX9_stone_X1_isField : GoodIn wsX9_stone wsX1_isField := goodIn_r _ [20] (by decide +kernel) (by decide +kernel)
set_option maxRecDepth 20000 in
theorem gX9_stone_X1_isField : GoodIn wsX9_stone (va_wsS RX9 60 yX1_isField wsX1_isField) := goodIn_app (goodIn_of _ (by decide +kernel)) ggX9_stone_X1_isField
theorem dX9_stone_8 : decode cX9_stone 8 = .ok (.invokestatic 60, 3) := by decide +kernel
theorem dX9_stone_11 : decode cX9_stone 11 = .ok (.ifCond .eq 12, 3) := by decide +kernel
theorem dX9_stone_14 : decode cX9_stone 14 = .ok (.iload_n 1, 1) := by decide +kernel
theorem dX9_stone_15 : decode cX9_stone 15 = .ok (.iload 4, 2) := by decide +kernel
set_option maxRecDepth 20000 in
theorem ggX9_stone_X9_fitsColour : GoodIn wsX9_stone wsX9_fitsColour := goodIn_r _ [23] (by decide +kernel) (by decide +kernel)
set_option maxRecDepth 20000 in
theorem gX9_stone_X9_fitsColour : GoodIn wsX9_stone (va_wsS RX9 91 yX9_fitsColour wsX9_fitsColour) := goodIn_app (goodIn_of _ (by decide +kernel)) ggX9_stone_X9_fitsColour
theorem dX9_stone_17 : decode cX9_stone 17 = .ok (.invokestatic 91, 3) := by decide +kernel
theorem dX9_stone_20 : decode cX9_stone 20 = .ok (.ifCond .ne 10, 3) := by decide +kernel
theorem dX9_stone_30 : decode cX9_stone 30 = .ok (.aload_n 0, 1) := by decide +kernel
theorem dX9_stone_31 : decode cX9_stone 31 = .ok (.iload_n 2, 1) := by decide +kernel
theorem dX9_stone_32 : decode cX9_stone 32 = .ok (.iload_n 3, 1) := by decide +kernel
set_option maxRecDepth 20000 in
theorem ggX9_stone_X9_isPlace : GoodIn wsX9_stone wsX9_isPlace := goodIn_r _ [32, 9, 33, 34, 35, 19, 36, 100, 101, 102, 103, 104, 105, 106, 107, 108, 109, 110] (by decide +kernel) (by decide +kernel)
set_option maxRecDepth 20000 in
theorem gX9_stone_X9_isPlace : GoodIn wsX9_stone (wsV RX9 95 RX9 yX9_isPlace wsX9_isPlace) := goodIn_app (goodIn_of _ (by decide +kernel)) ggX9_stone_X9_isPlace
theorem dX9_stone_33 : decode cX9_stone 33 = .ok (.invokevirtual 95, 3) := by decide +kernel
theorem dX9_stone_36 : decode cX9_stone 36 = .ok (.ifCond .ne 10, 3) := by decide +kernel
theorem dX9_stone_39 : decode cX9_stone 39 = .ok (.aload_n 0, 1) := by decide +kernel
theorem dX9_stone_40 : decode cX9_stone 40 = .ok (.ldc 99, 2) := by decide +kernel
theorem dX9_stone_42 : decode cX9_stone 42 = .ok (.invokevirtual 44, 3) := by decide +kernel
theorem dX9_stone_45 : decode cX9_stone 45 = .ok (.ireturn, 1) := by decide +kernel
set_option maxHeartbeats 4000000 in
set_option maxRecDepth 100000 in
theorem xp_X9_stone (l : Launch) (D : va_G) (cy : Nat → ClassId) (a : Nat → Nat) (sz : Nat) (RO : Nat → Nat → Option Nat) (x0 : Int32) (x1 : Int32) (x2 : Bool) (x3 : Int32) : Met l yX9_stone wsX9_stone ({ frames := 2, cells := 0, slots := 0, locals := 45 }) (va_Pc [.ref (a 0), .int x0, .int x1, .int (bI x2), .int x3] (PW D cy sz (CW cy a (fun _ => 0) (fun _ => 0) (va_up (fun _ => none) 100 (some (a 4))) (fun _ _ => 0) RO))) (va_Qi (fun r (_ : Unit) => r = a_stone x0 x1 x2 x3) (fun _ _ => True) (va_A (CW cy a (fun _ => 0) (fun _ => 0) (va_up (fun _ => none) 100 (some (a 4))) (fun _ _ => 0) RO) sz)) 0 0 (va_A (CW cy a (fun _ => 0) (fun _ => 0) (va_up (fun _ => none) 100 (some (a 4))) (fun _ _ => 0) RO) sz) := by
  refine Met.ofW (cc := cX9_stone) (maxL := 7) (ret := (some .int)) (by decide) rfl ?_
  intro p e s m args below meth c s₁ B hml hv
  obtain ⟨rfl, rfl, hP, hK, hN, hD0⟩ := hv
  have hx := B.exec
  have hb := B.bytes
  have hr := B.returns
  have hts := atoms_spec (ws := wsX9_stone) B.pre
  have hown : s.vm.findClass RX9 = some m.cls := findClass_of_methodNamed B.named
  have hlocks := B.notSynchronized
  have hw0 := hts (.constant RX9 43 (-100001)) (by decide +kernel)
  have hw1 := hts (.constant RX9 99 (-100003)) (by decide +kernel)
  have hD := hD0.self (sz := s.heap.size)
  generalize hAe : va_A (CW cy a (fun _ => 0) (fun _ => 0) (va_up (fun _ => none) 100 (some (a 4))) (fun _ _ => 0) RO) s.heap.size = A at hD ⊢
  have hA : ∀ q : Nat, s.heap.size ≤ q → A q := fun q h => by rw [← hAe]; exact Or.inr h
  have hS : va_S A s.heap s.heap [] := va_S.rf
  have hl := lv_entry ([.ref (a 0), .int x0, .int x1, .int (bI x2), .int x3]) (n := 7) (Nat.le_of_ble_eq_true rfl)
  rw [lg_entry_eq]
  generalize (lg_sl ([.ref (a 0), .int x0, .int x1, .int (bI x2), .int x3]) ++ List.replicate (7 - (lg_sl ([.ref (a 0), .int x0, .int x1, .int (bI x2), .int x3])).length) Slot.unset).toArray = ls at hl ⊢
  have hl : lv_has ls 7 [(0, .ref (a 0)), (1, .int x0), (2, .int x1), (3, .int (bI x2)), (4, .int x3)] := hl
  refine lv_iload_n hx hb dX9_stone_0 rfl (lv_at hl 1 rfl) ?_
  refine kS_i (As := [.int x0]) (rest := []) ⟨hx, hb, hml, hown, hts⟩ (c_X9_isKind l x0) (va_cwS 1 hts gX9_stone_X9_isKind rfl rfl rfl (by decide +kernel) ⟨Nat.le_of_ble_eq_true rfl, Nat.le_of_ble_eq_true rfl⟩) rfl hl.1 rfl (Nat.le_of_ble_eq_true rfl) dX9_stone_1 ⟨Nat.le_of_ble_eq_true rfl, Nat.le_of_ble_eq_true rfl⟩ ?_
  refine lv_if_eq (tgt := 23) hx hb dX9_stone_4 (by decide) (fun c_1 => ?_) (fun c_1 => ?_)
  · replace c_1 := bI_f c_1
    refine lv_aload_n hx hb dX9_stone_23 rfl (lv_at hl 0 rfl) ?_
    refine lv_ldc (v := (-100001)) hx hb hown hw0 dX9_stone_24 ?_
    refine kM_i (As := [.int (-100001)]) (rest := []) (q0 := 0) ⟨hx, hb, hml, hown, hts⟩ (c_X9_finding l D cy a _ (fun _ => 0) (fun _ => 0) (va_up (fun _ => none) 100 (some (a 4))) (fun _ _ => 0) RO (-100001) ) (cwV 1 hts gX9_stone_X9_finding rfl rfl rfl (by decide +kernel) ⟨Nat.le_of_ble_eq_true rfl, Nat.le_of_ble_eq_true rfl⟩) hK hN hP hD hS hA rfl rfl rfl hl.1 rfl (Nat.le_of_ble_eq_true rfl) dX9_stone_26 ⟨Nat.le_of_ble_eq_true rfl, Nat.le_of_ble_eq_true rfl⟩ (fun r u H locs hw hP hD hS => ?_)
    obtain ⟨rfl, rfl⟩ := hw
    have hP : va_P D vwCl (CW cy a (fun _ => 0) (va_up (fun _ => 0) 10 (0 + 1)) (va_up (fun _ => none) 100 (some (a 4))) (fun _ _ => 0) RO) H := hP
    have hD : va_D A (CW cy a (fun _ => 0) (va_up (fun _ => 0) 10 (0 + 1)) (va_up (fun _ => none) 100 (some (a 4))) (fun _ _ => 0) RO) := hD
    exact qret_i hx hb hr hlocks (by rw [a_stone_eq]; simp [c_1]) hS dX9_stone_29
  · replace c_1 := bI_t c_1
    refine lv_iload_n hx hb dX9_stone_7 rfl (lv_at hl 2 rfl) ?_
    refine kS_i (As := [.int x1]) (rest := []) ⟨hx, hb, hml, hown, hts⟩ (c_X1_isField l x1) (va_cwS 1 hts gX9_stone_X1_isField rfl rfl rfl (by decide +kernel) ⟨Nat.le_of_ble_eq_true rfl, Nat.le_of_ble_eq_true rfl⟩) rfl hl.1 rfl (Nat.le_of_ble_eq_true rfl) dX9_stone_8 ⟨Nat.le_of_ble_eq_true rfl, Nat.le_of_ble_eq_true rfl⟩ ?_
    refine lv_if_eq (tgt := 23) hx hb dX9_stone_11 (by decide) (fun c_2 => ?_) (fun c_2 => ?_)
    · replace c_2 := bI_f c_2
      refine lv_aload_n hx hb dX9_stone_23 rfl (lv_at hl 0 rfl) ?_
      refine lv_ldc (v := (-100001)) hx hb hown hw0 dX9_stone_24 ?_
      refine kM_i (As := [.int (-100001)]) (rest := []) (q0 := 0) ⟨hx, hb, hml, hown, hts⟩ (c_X9_finding l D cy a _ (fun _ => 0) (fun _ => 0) (va_up (fun _ => none) 100 (some (a 4))) (fun _ _ => 0) RO (-100001) ) (cwV 1 hts gX9_stone_X9_finding rfl rfl rfl (by decide +kernel) ⟨Nat.le_of_ble_eq_true rfl, Nat.le_of_ble_eq_true rfl⟩) hK hN hP hD hS hA rfl rfl rfl hl.1 rfl (Nat.le_of_ble_eq_true rfl) dX9_stone_26 ⟨Nat.le_of_ble_eq_true rfl, Nat.le_of_ble_eq_true rfl⟩ (fun r u H locs hw hP hD hS => ?_)
      obtain ⟨rfl, rfl⟩ := hw
      have hP : va_P D vwCl (CW cy a (fun _ => 0) (va_up (fun _ => 0) 10 (0 + 1)) (va_up (fun _ => none) 100 (some (a 4))) (fun _ _ => 0) RO) H := hP
      have hD : va_D A (CW cy a (fun _ => 0) (va_up (fun _ => 0) 10 (0 + 1)) (va_up (fun _ => none) 100 (some (a 4))) (fun _ _ => 0) RO) := hD
      exact qret_i hx hb hr hlocks (by rw [a_stone_eq]; simp [c_1, c_2]) hS dX9_stone_29
    · replace c_2 := bI_t c_2
      refine lv_iload_n hx hb dX9_stone_14 rfl (lv_at hl 1 rfl) ?_
      refine lv_iload hx hb dX9_stone_15 (lv_at hl 4 rfl) ?_
      refine kS_i (As := [.int x0, .int x3]) (rest := []) ⟨hx, hb, hml, hown, hts⟩ (c_X9_fitsColour l x0 x3) (va_cwS 2 hts gX9_stone_X9_fitsColour rfl rfl rfl (by decide +kernel) ⟨Nat.le_of_ble_eq_true rfl, Nat.le_of_ble_eq_true rfl⟩) rfl hl.1 rfl (Nat.le_of_ble_eq_true rfl) dX9_stone_17 ⟨Nat.le_of_ble_eq_true rfl, Nat.le_of_ble_eq_true rfl⟩ ?_
      refine lv_if_ne (tgt := 30) hx hb dX9_stone_20 (by decide) (fun c_3 => ?_) (fun c_3 => ?_)
      · replace c_3 := bI_t c_3
        refine lv_aload_n hx hb dX9_stone_30 rfl (lv_at hl 0 rfl) ?_
        refine lv_iload_n hx hb dX9_stone_31 rfl (lv_at hl 2 rfl) ?_
        refine lv_iload_n hx hb dX9_stone_32 rfl (lv_at hl 3 rfl) ?_
        refine kR_i (As := [.int x1, .int (bI x2)]) (rest := []) (q0 := 0) ⟨hx, hb, hml, hown, hts⟩ (c_X9_isPlace l D cy a _ RO x1 x2 ) (cwV 2 hts gX9_stone_X9_isPlace rfl rfl rfl (by decide +kernel) ⟨Nat.le_of_ble_eq_true rfl, Nat.le_of_ble_eq_true rfl⟩) hK hN hP hD rfl rfl rfl hl.1 rfl (Nat.le_of_ble_eq_true rfl) dX9_stone_33 ⟨Nat.le_of_ble_eq_true rfl, Nat.le_of_ble_eq_true rfl⟩ ?_
        refine lv_if_ne (tgt := 46) hx hb dX9_stone_36 (by decide) (fun c_4 => absurd (by decide) c_4) (fun c_4 => ?_)
        refine lv_aload_n hx hb dX9_stone_39 rfl (lv_at hl 0 rfl) ?_
        refine lv_ldc (v := (-100003)) hx hb hown hw1 dX9_stone_40 ?_
        refine kM_i (As := [.int (-100003)]) (rest := []) (q0 := 0) ⟨hx, hb, hml, hown, hts⟩ (c_X9_finding l D cy a _ (fun _ => 0) (fun _ => 0) (va_up (fun _ => none) 100 (some (a 4))) (fun _ _ => 0) RO (-100003) ) (cwV 1 hts gX9_stone_X9_finding rfl rfl rfl (by decide +kernel) ⟨Nat.le_of_ble_eq_true rfl, Nat.le_of_ble_eq_true rfl⟩) hK hN hP hD hS hA rfl rfl rfl hl.1 rfl (Nat.le_of_ble_eq_true rfl) dX9_stone_42 ⟨Nat.le_of_ble_eq_true rfl, Nat.le_of_ble_eq_true rfl⟩ (fun r u H locs hw hP hD hS => ?_)
        obtain ⟨rfl, rfl⟩ := hw
        have hP : va_P D vwCl (CW cy a (fun _ => 0) (va_up (fun _ => 0) 10 (0 + 1)) (va_up (fun _ => none) 100 (some (a 4))) (fun _ _ => 0) RO) H := hP
        have hD : va_D A (CW cy a (fun _ => 0) (va_up (fun _ => 0) 10 (0 + 1)) (va_up (fun _ => none) 100 (some (a 4))) (fun _ _ => 0) RO) := hD
        exact qret_i hx hb hr hlocks (by rw [a_stone_eq]; simp [c_1, c_2, c_3]) hS dX9_stone_45
      · replace c_3 := bI_f c_3
        refine lv_aload_n hx hb dX9_stone_23 rfl (lv_at hl 0 rfl) ?_
        refine lv_ldc (v := (-100001)) hx hb hown hw0 dX9_stone_24 ?_
        refine kM_i (As := [.int (-100001)]) (rest := []) (q0 := 0) ⟨hx, hb, hml, hown, hts⟩ (c_X9_finding l D cy a _ (fun _ => 0) (fun _ => 0) (va_up (fun _ => none) 100 (some (a 4))) (fun _ _ => 0) RO (-100001) ) (cwV 1 hts gX9_stone_X9_finding rfl rfl rfl (by decide +kernel) ⟨Nat.le_of_ble_eq_true rfl, Nat.le_of_ble_eq_true rfl⟩) hK hN hP hD hS hA rfl rfl rfl hl.1 rfl (Nat.le_of_ble_eq_true rfl) dX9_stone_26 ⟨Nat.le_of_ble_eq_true rfl, Nat.le_of_ble_eq_true rfl⟩ (fun r u H locs hw hP hD hS => ?_)
        obtain ⟨rfl, rfl⟩ := hw
        have hP : va_P D vwCl (CW cy a (fun _ => 0) (va_up (fun _ => 0) 10 (0 + 1)) (va_up (fun _ => none) 100 (some (a 4))) (fun _ _ => 0) RO) H := hP
        have hD : va_D A (CW cy a (fun _ => 0) (va_up (fun _ => 0) 10 (0 + 1)) (va_up (fun _ => none) 100 (some (a 4))) (fun _ _ => 0) RO) := hD
        exact qret_i hx hb hr hlocks (by rw [a_stone_eq]; simp [c_1, c_2, c_3]) hS dX9_stone_29
theorem dX9_loose_0 : decode cX9_loose 0 = .ok (.aload_n 0, 1) := by decide +kernel
theorem dX9_loose_1 : decode cX9_loose 1 = .ok (.getfield 106, 3) := by decide +kernel
theorem dX9_loose_4 : decode cX9_loose 4 = .ok (.ifnonnull 10, 3) := by decide +kernel
theorem dX9_loose_7 : decode cX9_loose 7 = .ok (.aload_n 0, 1) := by decide +kernel
theorem dX9_loose_8 : decode cX9_loose 8 = .ok (.ldc 137, 2) := by decide +kernel
set_option maxRecDepth 20000 in
theorem ggX9_loose_X9_finding : GoodIn wsX9_loose wsX9_finding := goodIn_r _ [9, 10, 35, 36, 37, 38, 39, 40, 41, 42, 43, 44, 45] (by decide +kernel) (by decide +kernel)
set_option maxRecDepth 20000 in
theorem gX9_loose_X9_finding : GoodIn wsX9_loose (wsV RX9 44 RX9 yX9_finding wsX9_finding) := goodIn_app (goodIn_of _ (by decide +kernel)) ggX9_loose_X9_finding
theorem dX9_loose_10 : decode cX9_loose 10 = .ok (.invokevirtual 44, 3) := by decide +kernel
theorem dX9_loose_13 : decode cX9_loose 13 = .ok (.ireturn, 1) := by decide +kernel
set_option maxRecDepth 20000 in
theorem ihX9_loose_9 : ∀ w ∈ u_ws RX9 TX9 11, w ∈ wsX9_loose := by decide +kernel
set_option maxHeartbeats 4000000 in
set_option maxRecDepth 100000 in
theorem xp_X9_loose (l : Launch) (D : va_G) (cy : Nat → ClassId) (a : Nat → Nat) (sz : Nat) (RO : Nat → Nat → Option Nat)  : Met l yX9_loose wsX9_loose ({ frames := 1, cells := 0, slots := 0, locals := 21 }) (va_Pc [.ref (a 0)] (PW D cy sz (CW cy a (fun _ => 0) (fun _ => 0) (va_up (fun _ => none) 100 (some (a 4))) (fun _ _ => 0) RO))) (va_Qi (fun r (_ : Unit) => r = (-100006)) (fun _ _ => True) (va_A (CW cy a (fun _ => 0) (fun _ => 0) (va_up (fun _ => none) 100 (some (a 4))) (fun _ _ => 0) RO) sz)) 0 0 (va_A (CW cy a (fun _ => 0) (fun _ => 0) (va_up (fun _ => none) 100 (some (a 4))) (fun _ _ => 0) RO) sz) := by
  refine Met.ofW (cc := cX9_loose) (maxL := 1) (ret := (some .int)) (by decide) rfl ?_
  intro p e s m args below meth c s₁ B hml hv
  obtain ⟨rfl, rfl, hP, hK, hN, hD0⟩ := hv
  have hx := B.exec
  have hb := B.bytes
  have hr := B.returns
  have hts := atoms_spec (ws := wsX9_loose) B.pre
  have hown : s.vm.findClass RX9 = some m.cls := findClass_of_methodNamed B.named
  have hlocks := B.notSynchronized
  have hw0 := hts (.fieldLink RX9 106 "ParquetLayer" "latest" "LParquetLayer$Stone;") (by decide +kernel)
  have hw1 := hts (.constant RX9 137 (-100006)) (by decide +kernel)
  have hi9 := ihX9_loose_9
  have hD := hD0.self (sz := s.heap.size)
  generalize hAe : va_A (CW cy a (fun _ => 0) (fun _ => 0) (va_up (fun _ => none) 100 (some (a 4))) (fun _ _ => 0) RO) s.heap.size = A at hD ⊢
  have hA : ∀ q : Nat, s.heap.size ≤ q → A q := fun q h => by rw [← hAe]; exact Or.inr h
  have hS : va_S A s.heap s.heap [] := va_S.rf
  have hl := lv_entry ([.ref (a 0)]) (n := 1) (Nat.le_of_ble_eq_true rfl)
  rw [lg_entry_eq]
  generalize (lg_sl ([.ref (a 0)]) ++ List.replicate (1 - (lg_sl ([.ref (a 0)])).length) Slot.unset).toArray = ls at hl ⊢
  have hl : lv_has ls 1 [(0, .ref (a 0))] := hl
  refine lv_aload_n hx hb dX9_loose_0 rfl (lv_at hl 0 rfl) ?_
  refine va_get (D := D) (ci := 8) (v := .null) (C := RX9) (T := TX9) (N := 11) hx hb hts hi9 hown hK hP 0 rfl rfl 7 (by decide) hw0 (fun _ h9 => h9) rfl dX9_loose_1 ?_
  refine lv_ifnonnullN hx hb dX9_loose_4 ?_
  refine lv_aload_n hx hb dX9_loose_7 rfl (lv_at hl 0 rfl) ?_
  refine lv_ldc (v := (-100006)) hx hb hown hw1 dX9_loose_8 ?_
  refine kM_i (As := [.int (-100006)]) (rest := []) (q0 := 0) ⟨hx, hb, hml, hown, hts⟩ (c_X9_finding l D cy a _ (fun _ => 0) (fun _ => 0) (va_up (fun _ => none) 100 (some (a 4))) (fun _ _ => 0) RO (-100006) ) (cwV 1 hts gX9_loose_X9_finding rfl rfl rfl (by decide +kernel) ⟨Nat.le_of_ble_eq_true rfl, Nat.le_of_ble_eq_true rfl⟩) hK hN hP hD hS hA rfl rfl rfl hl.1 rfl (Nat.le_of_ble_eq_true rfl) dX9_loose_10 ⟨Nat.le_of_ble_eq_true rfl, Nat.le_of_ble_eq_true rfl⟩ (fun r u H locs hw hP hD hS => ?_)
  obtain ⟨rfl, rfl⟩ := hw
  have hP : va_P D vwCl (CW cy a (fun _ => 0) (va_up (fun _ => 0) 10 (0 + 1)) (va_up (fun _ => none) 100 (some (a 4))) (fun _ _ => 0) RO) H := hP
  have hD : va_D A (CW cy a (fun _ => 0) (va_up (fun _ => 0) 10 (0 + 1)) (va_up (fun _ => none) 100 (some (a 4))) (fun _ _ => 0) RO) := hD
  exact qret_i hx hb hr hlocks rfl hS dX9_loose_13
theorem dX9_as_0 : decode cX9_as 0 = .ok (.aload_n 0, 1) := by decide +kernel
theorem dX9_as_1 : decode cX9_as 1 = .ok (.iload_n 1, 1) := by decide +kernel
set_option maxRecDepth 20000 in
theorem ggX9_as_X9_stoneOf : GoodIn wsX9_as wsX9_stoneOf := goodIn_r _ [9, 10, 4, 11, 30, 31, 32, 33, 34, 35, 36, 37, 38, 39, 40, 23, 24, 25, 26, 27, 28, 29] (by decide +kernel) (by decide +kernel)
set_option maxRecDepth 20000 in
theorem gX9_as_X9_stoneOf : GoodIn wsX9_as (wsV RX9 141 RX9 yX9_stoneOf wsX9_stoneOf) := goodIn_app (goodIn_of _ (by decide +kernel)) ggX9_as_X9_stoneOf
theorem dX9_as_2 : decode cX9_as 2 = .ok (.invokevirtual 141, 3) := by decide +kernel
theorem dX9_as_5 : decode cX9_as 5 = .ok (.astore_n 3, 1) := by decide +kernel
theorem dX9_as_6 : decode cX9_as 6 = .ok (.aload_n 3, 1) := by decide +kernel
theorem dX9_as_7 : decode cX9_as 7 = .ok (.ifnull 10, 3) := by decide +kernel
theorem dX9_as_17 : decode cX9_as 17 = .ok (.aload_n 0, 1) := by decide +kernel
theorem dX9_as_18 : decode cX9_as 18 = .ok (.ldc 43, 2) := by decide +kernel
set_option maxRecDepth 20000 in
theorem ggX9_as_X9_finding : GoodIn wsX9_as wsX9_finding := goodIn_r _ [18, 19, 30, 31, 32, 33, 34, 35, 36, 37, 38, 39, 40] (by decide +kernel) (by decide +kernel)
set_option maxRecDepth 20000 in
theorem gX9_as_X9_finding : GoodIn wsX9_as (wsV RX9 44 RX9 yX9_finding wsX9_finding) := goodIn_app (goodIn_of _ (by decide +kernel)) ggX9_as_X9_finding
theorem dX9_as_20 : decode cX9_as 20 = .ok (.invokevirtual 44, 3) := by decide +kernel
theorem dX9_as_23 : decode cX9_as 23 = .ok (.ireturn, 1) := by decide +kernel
set_option maxHeartbeats 4000000 in
set_option maxRecDepth 100000 in
theorem xp_X9_as (l : Launch) (D : va_G) (cy : Nat → ClassId) (a : Nat → Nat) (sz : Nat) (RO : Nat → Nat → Option Nat) (x0 : Int32) (x1 : Int32) : Met l yX9_as wsX9_as ({ frames := 1, cells := 0, slots := 0, locals := 22 }) (va_Pc [.ref (a 0), .int x0, .int x1] (PW D cy sz (CW cy a (fun _ => 0) (fun _ => 0) (va_up (fun _ => none) 100 (some (a 4))) (fun _ _ => 0) RO))) (va_Qi (fun r (_ : Unit) => r = (-100001)) (fun _ _ => True) (va_A (CW cy a (fun _ => 0) (fun _ => 0) (va_up (fun _ => none) 100 (some (a 4))) (fun _ _ => 0) RO) sz)) 0 0 (va_A (CW cy a (fun _ => 0) (fun _ => 0) (va_up (fun _ => none) 100 (some (a 4))) (fun _ _ => 0) RO) sz) := by
  refine Met.ofW (cc := cX9_as) (maxL := 4) (ret := (some .int)) (by decide) rfl ?_
  intro p e s m args below meth c s₁ B hml hv
  obtain ⟨rfl, rfl, hP, hK, hN, hD0⟩ := hv
  have hx := B.exec
  have hb := B.bytes
  have hr := B.returns
  have hts := atoms_spec (ws := wsX9_as) B.pre
  have hown : s.vm.findClass RX9 = some m.cls := findClass_of_methodNamed B.named
  have hlocks := B.notSynchronized
  have hw0 := hts (.constant RX9 43 (-100001)) (by decide +kernel)
  have hD := hD0.self (sz := s.heap.size)
  generalize hAe : va_A (CW cy a (fun _ => 0) (fun _ => 0) (va_up (fun _ => none) 100 (some (a 4))) (fun _ _ => 0) RO) s.heap.size = A at hD ⊢
  have hA : ∀ q : Nat, s.heap.size ≤ q → A q := fun q h => by rw [← hAe]; exact Or.inr h
  have hS : va_S A s.heap s.heap [] := va_S.rf
  have hl := lv_entry ([.ref (a 0), .int x0, .int x1]) (n := 4) (Nat.le_of_ble_eq_true rfl)
  rw [lg_entry_eq]
  generalize (lg_sl ([.ref (a 0), .int x0, .int x1]) ++ List.replicate (4 - (lg_sl ([.ref (a 0), .int x0, .int x1])).length) Slot.unset).toArray = ls at hl ⊢
  have hl : lv_has ls 4 [(0, .ref (a 0)), (1, .int x0), (2, .int x1)] := hl
  refine lv_aload_n hx hb dX9_as_0 rfl (lv_at hl 0 rfl) ?_
  refine lv_iload_n hx hb dX9_as_1 rfl (lv_at hl 1 rfl) ?_
  refine kR_x (As := [.int x0]) (rest := []) (q0 := 0) ⟨hx, hb, hml, hown, hts⟩ (rx_stoneOf l D cy a _ RO x0) (cwV 1 hts gX9_as_X9_stoneOf rfl rfl rfl (by decide +kernel) ⟨Nat.le_of_ble_eq_true rfl, Nat.le_of_ble_eq_true rfl⟩) hK hN hP hD rfl rfl rfl hl.1 rfl (Nat.le_of_ble_eq_true rfl) dX9_as_2 ⟨Nat.le_of_ble_eq_true rfl, Nat.le_of_ble_eq_true rfl⟩ ?_
  refine lv_astore_nN (lv' := [(3, .null), (0, .ref (a 0)), (1, .int x0), (2, .int x1)]) hx hb dX9_as_5 rfl hl (by decide) rfl (fun ls hl => ?_)
  refine lv_aload_nN hx hb dX9_as_6 rfl (lv_at hl 0 rfl) ?_
  refine lv_ifnullN (tgt := 17) hx hb dX9_as_7 (by decide) ?_
  refine lv_aload_n hx hb dX9_as_17 rfl (lv_at hl 1 rfl) ?_
  refine lv_ldc (v := (-100001)) hx hb hown hw0 dX9_as_18 ?_
  refine kM_i (As := [.int (-100001)]) (rest := []) (q0 := 0) ⟨hx, hb, hml, hown, hts⟩ (c_X9_finding l D cy a _ (fun _ => 0) (fun _ => 0) (va_up (fun _ => none) 100 (some (a 4))) (fun _ _ => 0) RO (-100001) ) (cwV 1 hts gX9_as_X9_finding rfl rfl rfl (by decide +kernel) ⟨Nat.le_of_ble_eq_true rfl, Nat.le_of_ble_eq_true rfl⟩) hK hN hP hD hS hA rfl rfl rfl hl.1 rfl (Nat.le_of_ble_eq_true rfl) dX9_as_20 ⟨Nat.le_of_ble_eq_true rfl, Nat.le_of_ble_eq_true rfl⟩ (fun r u H locs hw hP hD hS => ?_)
  obtain ⟨rfl, rfl⟩ := hw
  have hP : va_P D vwCl (CW cy a (fun _ => 0) (va_up (fun _ => 0) 10 (0 + 1)) (va_up (fun _ => none) 100 (some (a 4))) (fun _ _ => 0) RO) H := hP
  have hD : va_D A (CW cy a (fun _ => 0) (va_up (fun _ => 0) 10 (0 + 1)) (va_up (fun _ => none) 100 (some (a 4))) (fun _ _ => 0) RO) := hD
  exact qret_i hx hb hr hlocks rfl hS dX9_as_23
theorem dX9_told_0 : decode cX9_told 0 = .ok (.aload_n 0, 1) := by decide +kernel
theorem dX9_told_1 : decode cX9_told 1 = .ok (.iload_n 1, 1) := by decide +kernel
set_option maxRecDepth 20000 in
theorem ggX9_told_X9_stoneOf : GoodIn wsX9_told wsX9_stoneOf := goodIn_r _ [11, 12, 13, 14, 41, 42, 43, 44, 45, 46, 47, 48, 49, 50, 51, 34, 35, 36, 37, 38, 39, 40] (by decide +kernel) (by decide +kernel)
set_option maxRecDepth 20000 in
theorem gX9_told_X9_stoneOf : GoodIn wsX9_told (wsV RX9 141 RX9 yX9_stoneOf wsX9_stoneOf) := goodIn_app (goodIn_of _ (by decide +kernel)) ggX9_told_X9_stoneOf
theorem dX9_told_2 : decode cX9_told 2 = .ok (.invokevirtual 141, 3) := by decide +kernel
theorem dX9_told_5 : decode cX9_told 5 = .ok (.astore_n 3, 1) := by decide +kernel
theorem dX9_told_6 : decode cX9_told 6 = .ok (.aload_n 3, 1) := by decide +kernel
theorem dX9_told_7 : decode cX9_told 7 = .ok (.ifnonnull 10, 3) := by decide +kernel
theorem dX9_told_10 : decode cX9_told 10 = .ok (.aload_n 0, 1) := by decide +kernel
theorem dX9_told_11 : decode cX9_told 11 = .ok (.ldc 43, 2) := by decide +kernel
set_option maxRecDepth 20000 in
theorem ggX9_told_X9_finding : GoodIn wsX9_told wsX9_finding := goodIn_r _ [18, 19, 41, 42, 43, 44, 45, 46, 47, 48, 49, 50, 51] (by decide +kernel) (by decide +kernel)
set_option maxRecDepth 20000 in
theorem gX9_told_X9_finding : GoodIn wsX9_told (wsV RX9 44 RX9 yX9_finding wsX9_finding) := goodIn_app (goodIn_of _ (by decide +kernel)) ggX9_told_X9_finding
theorem dX9_told_13 : decode cX9_told 13 = .ok (.invokevirtual 44, 3) := by decide +kernel
theorem dX9_told_16 : decode cX9_told 16 = .ok (.ireturn, 1) := by decide +kernel
set_option maxHeartbeats 4000000 in
set_option maxRecDepth 100000 in
theorem xp_X9_told (l : Launch) (D : va_G) (cy : Nat → ClassId) (a : Nat → Nat) (sz : Nat) (RO : Nat → Nat → Option Nat) (x0 : Int32) (x1 : Int32) : Met l yX9_told wsX9_told ({ frames := 1, cells := 0, slots := 0, locals := 22 }) (va_Pc [.ref (a 0), .int x0, .int x1] (PW D cy sz (CW cy a (fun _ => 0) (fun _ => 0) (va_up (fun _ => none) 100 (some (a 4))) (fun _ _ => 0) RO))) (va_Qi (fun r (_ : Unit) => r = (-100001)) (fun _ _ => True) (va_A (CW cy a (fun _ => 0) (fun _ => 0) (va_up (fun _ => none) 100 (some (a 4))) (fun _ _ => 0) RO) sz)) 0 0 (va_A (CW cy a (fun _ => 0) (fun _ => 0) (va_up (fun _ => none) 100 (some (a 4))) (fun _ _ => 0) RO) sz) := by
  refine Met.ofW (cc := cX9_told) (maxL := 4) (ret := (some .int)) (by decide) rfl ?_
  intro p e s m args below meth c s₁ B hml hv
  obtain ⟨rfl, rfl, hP, hK, hN, hD0⟩ := hv
  have hx := B.exec
  have hb := B.bytes
  have hr := B.returns
  have hts := atoms_spec (ws := wsX9_told) B.pre
  have hown : s.vm.findClass RX9 = some m.cls := findClass_of_methodNamed B.named
  have hlocks := B.notSynchronized
  have hw0 := hts (.constant RX9 43 (-100001)) (by decide +kernel)
  have hD := hD0.self (sz := s.heap.size)
  generalize hAe : va_A (CW cy a (fun _ => 0) (fun _ => 0) (va_up (fun _ => none) 100 (some (a 4))) (fun _ _ => 0) RO) s.heap.size = A at hD ⊢
  have hA : ∀ q : Nat, s.heap.size ≤ q → A q := fun q h => by rw [← hAe]; exact Or.inr h
  have hS : va_S A s.heap s.heap [] := va_S.rf
  have hl := lv_entry ([.ref (a 0), .int x0, .int x1]) (n := 4) (Nat.le_of_ble_eq_true rfl)
  rw [lg_entry_eq]
  generalize (lg_sl ([.ref (a 0), .int x0, .int x1]) ++ List.replicate (4 - (lg_sl ([.ref (a 0), .int x0, .int x1])).length) Slot.unset).toArray = ls at hl ⊢
  have hl : lv_has ls 4 [(0, .ref (a 0)), (1, .int x0), (2, .int x1)] := hl
  refine lv_aload_n hx hb dX9_told_0 rfl (lv_at hl 0 rfl) ?_
  refine lv_iload_n hx hb dX9_told_1 rfl (lv_at hl 1 rfl) ?_
  refine kR_x (As := [.int x0]) (rest := []) (q0 := 0) ⟨hx, hb, hml, hown, hts⟩ (rx_stoneOf l D cy a _ RO x0) (cwV 1 hts gX9_told_X9_stoneOf rfl rfl rfl (by decide +kernel) ⟨Nat.le_of_ble_eq_true rfl, Nat.le_of_ble_eq_true rfl⟩) hK hN hP hD rfl rfl rfl hl.1 rfl (Nat.le_of_ble_eq_true rfl) dX9_told_2 ⟨Nat.le_of_ble_eq_true rfl, Nat.le_of_ble_eq_true rfl⟩ ?_
  refine lv_astore_nN (lv' := [(3, .null), (0, .ref (a 0)), (1, .int x0), (2, .int x1)]) hx hb dX9_told_5 rfl hl (by decide) rfl (fun ls hl => ?_)
  refine lv_aload_nN hx hb dX9_told_6 rfl (lv_at hl 0 rfl) ?_
  refine lv_ifnonnullN hx hb dX9_told_7 ?_
  refine lv_aload_n hx hb dX9_told_10 rfl (lv_at hl 1 rfl) ?_
  refine lv_ldc (v := (-100001)) hx hb hown hw0 dX9_told_11 ?_
  refine kM_i (As := [.int (-100001)]) (rest := []) (q0 := 0) ⟨hx, hb, hml, hown, hts⟩ (c_X9_finding l D cy a _ (fun _ => 0) (fun _ => 0) (va_up (fun _ => none) 100 (some (a 4))) (fun _ _ => 0) RO (-100001) ) (cwV 1 hts gX9_told_X9_finding rfl rfl rfl (by decide +kernel) ⟨Nat.le_of_ble_eq_true rfl, Nat.le_of_ble_eq_true rfl⟩) hK hN hP hD hS hA rfl rfl rfl hl.1 rfl (Nat.le_of_ble_eq_true rfl) dX9_told_13 ⟨Nat.le_of_ble_eq_true rfl, Nat.le_of_ble_eq_true rfl⟩ (fun r u H locs hw hP hD hS => ?_)
  obtain ⟨rfl, rfl⟩ := hw
  have hP : va_P D vwCl (CW cy a (fun _ => 0) (va_up (fun _ => 0) 10 (0 + 1)) (va_up (fun _ => none) 100 (some (a 4))) (fun _ _ => 0) RO) H := hP
  have hD : va_D A (CW cy a (fun _ => 0) (va_up (fun _ => 0) 10 (0 + 1)) (va_up (fun _ => none) 100 (some (a 4))) (fun _ _ => 0) RO) := hD
  exact qret_i hx hb hr hlocks rfl hS dX9_told_16
theorem dX9_count_0 : decode cX9_count 0 = .ok (.aload_n 0, 1) := by decide +kernel
set_option maxRecDepth 20000 in
theorem ggX9_count_X9_knownLayings : GoodIn wsX9_count wsX9_knownLayings := goodIn_r _ [5, 6, 7, 8, 9, 10, 11, 12, 13, 14, 15, 16, 17, 18, 19, 20, 21, 22, 4, 23, 24, 25, 26, 27, 28, 29, 30, 31, 32, 33, 34, 35, 36, 37, 38, 39, 40, 41, 42, 43, 44, 45, 46, 47, 48, 49, 50, 51, 52, 53, 58, 59, 60, 61, 62, 63, 64, 65, 66, 67, 68, 69, 70, 71, 72, 73, 74, 75, 76, 77, 78, 79] (by decide +kernel) (by decide +kernel)
set_option maxRecDepth 20000 in
theorem gX9_count_X9_knownLayings : GoodIn wsX9_count (wsV RX9 170 RX9 yX9_knownLayings wsX9_knownLayings) := goodIn_app (goodIn_of _ (by decide +kernel)) ggX9_count_X9_knownLayings
theorem dX9_count_1 : decode cX9_count 1 = .ok (.invokevirtual 170, 3) := by decide +kernel
set_option maxRecDepth 20000 in
theorem ggX9_count_X4_total : GoodIn wsX9_count wsX4_total := goodIn_r _ [57, 18, 69, 70, 71, 72] (by decide +kernel) (by decide +kernel)
set_option maxRecDepth 20000 in
theorem gX9_count_X4_total : GoodIn wsX9_count (wsV RX9 174 RX4 yX4_total wsX4_total) := goodIn_app (goodIn_of _ (by decide +kernel)) ggX9_count_X4_total
theorem dX9_count_4 : decode cX9_count 4 = .ok (.invokevirtual 174, 3) := by decide +kernel
theorem dX9_count_7 : decode cX9_count 7 = .ok (.ireturn, 1) := by decide +kernel
set_option maxHeartbeats 4000000 in
set_option maxRecDepth 100000 in
theorem xp_X9_count (l : Launch) (D : va_G) (cy : Nat → ClassId) (a : Nat → Nat) (sz : Nat) (RO : Nat → Nat → Option Nat)  : Met l yX9_count wsX9_count ({ frames := 5, cells := 3, slots := 17156, locals := 119 }) (va_Pc [.ref (a 0)] (PW D cy sz (CW cy a (fun _ => 0) (fun _ => 0) (va_up (fun _ => none) 100 (some (a 4))) (fun _ _ => 0) RO))) (va_Qi (fun r (_ : Unit) => r = 1) (fun _ _ => True) (va_A (CW cy a (fun _ => 0) (fun _ => 0) (va_up (fun _ => none) 100 (some (a 4))) (fun _ _ => 0) RO) sz)) 3 17156 (va_A (CW cy a (fun _ => 0) (fun _ => 0) (va_up (fun _ => none) 100 (some (a 4))) (fun _ _ => 0) RO) sz) := by
  refine Met.ofW (cc := cX9_count) (maxL := 1) (ret := (some .int)) (by decide) rfl ?_
  intro p e s m args below meth c s₁ B hml hv
  obtain ⟨rfl, rfl, hP, hK, hN, hD0⟩ := hv
  have hx := B.exec
  have hb := B.bytes
  have hr := B.returns
  have hts := atoms_spec (ws := wsX9_count) B.pre
  have hown : s.vm.findClass RX9 = some m.cls := findClass_of_methodNamed B.named
  have hlocks := B.notSynchronized
  have hD := hD0.self (sz := s.heap.size)
  generalize hAe : va_A (CW cy a (fun _ => 0) (fun _ => 0) (va_up (fun _ => none) 100 (some (a 4))) (fun _ _ => 0) RO) s.heap.size = A at hD ⊢
  have hA : ∀ q : Nat, s.heap.size ≤ q → A q := fun q h => by rw [← hAe]; exact Or.inr h
  have hS : va_S A s.heap s.heap [] := va_S.rf
  have hl := lv_entry ([.ref (a 0)]) (n := 1) (Nat.le_of_ble_eq_true rfl)
  rw [lg_entry_eq]
  generalize (lg_sl ([.ref (a 0)]) ++ List.replicate (1 - (lg_sl ([.ref (a 0)])).length) Slot.unset).toArray = ls at hl ⊢
  have hl : lv_has ls 1 [(0, .ref (a 0))] := hl
  refine lv_aload_n hx hb dX9_count_0 rfl (lv_at hl 0 rfl) ?_
  refine kM_r (As := []) (rest := []) (q0 := 0) ⟨hx, hb, hml, hown, hts⟩ (mr_known0 l D cy a _ RO  ) (cwV 0 hts gX9_count_X9_knownLayings rfl rfl rfl (by decide +kernel) ⟨Nat.le_of_ble_eq_true rfl, Nat.le_of_ble_eq_true rfl⟩) hK hN hP hD hS hA rfl rfl rfl hl.1 rfl (Nat.le_of_ble_eq_true rfl) dX9_count_1 ⟨Nat.le_of_ble_eq_true rfl, Nat.le_of_ble_eq_true rfl⟩ (fun u r H locs hw hP hD hS => ?_)
  obtain ⟨q_2, q_3, W_4⟩ := u
  have hW_5 : W_4 0 = 1 := hw
  obtain ⟨q_1, rfl⟩ : ∃ z, z = r := ⟨_, rfl⟩
  have hP : va_P D vwCl (CL cy (ext a q_1 q_2 q_3) (fun _ => 0) (va_up (fun _ => 0) 643 1) (va_up (va_up (fun _ => none) 100 (some (a 4))) 5 (some q_1)) (va_up (fun _ _ => 0) 21 W_4) RO) H := hP
  have hD : va_D A (CL cy (ext a q_1 q_2 q_3) (fun _ => 0) (va_up (fun _ => 0) 643 1) (va_up (va_up (fun _ => none) 100 (some (a 4))) 5 (some q_1)) (va_up (fun _ _ => 0) 21 W_4) RO) := hD
  refine kR_i (As := []) (rest := []) (q0 := 20) ⟨hx, hb, hml, hown, hts⟩ (c_X4_total l D cy (ext a q_1 q_2 q_3) _ RO  W_4) (cwV 0 hts gX9_count_X4_total rfl rfl rfl (by decide +kernel) ⟨Nat.le_of_ble_eq_true rfl, Nat.le_of_ble_eq_true rfl⟩) hK hN hP hD rfl rfl rfl hl.1 rfl (Nat.le_of_ble_eq_true rfl) dX9_count_4 ⟨Nat.le_of_ble_eq_true rfl, Nat.le_of_ble_eq_true rfl⟩ ?_
  refine wtop_i (y := 1) hW_5 ?_
  exact qret_i hx hb hr hlocks rfl hS dX9_count_7
theorem dX9_with_0 : decode cX9_with 0 = .ok (.iload_n 1, 1) := by decide +kernel
set_option maxRecDepth 20000 in
theorem ggX9_with_X1_isField : GoodIn wsX9_with wsX1_isField := goodIn_r _ [6] (by decide +kernel) (by decide +kernel)
set_option maxRecDepth 20000 in
theorem gX9_with_X1_isField : GoodIn wsX9_with (va_wsS RX9 60 yX1_isField wsX1_isField) := goodIn_app (goodIn_of _ (by decide +kernel)) ggX9_with_X1_isField
theorem dX9_with_1 : decode cX9_with 1 = .ok (.invokestatic 60, 3) := by decide +kernel
theorem dX9_with_4 : decode cX9_with 4 = .ok (.ifCond .ne 10, 3) := by decide +kernel
theorem dX9_with_14 : decode cX9_with 14 = .ok (.aload_n 0, 1) := by decide +kernel
theorem dX9_with_15 : decode cX9_with 15 = .ok (.iload_n 1, 1) := by decide +kernel
theorem dX9_with_16 : decode cX9_with 16 = .ok (.iload_n 2, 1) := by decide +kernel
set_option maxRecDepth 20000 in
theorem ggX9_with_X9_isPlace : GoodIn wsX9_with wsX9_isPlace := goodIn_r _ [16, 17, 18, 19, 20, 5, 21, 91, 92, 93, 94, 95, 96, 97, 98, 99, 100, 101] (by decide +kernel) (by decide +kernel)
set_option maxRecDepth 20000 in
theorem gX9_with_X9_isPlace : GoodIn wsX9_with (wsV RX9 95 RX9 yX9_isPlace wsX9_isPlace) := goodIn_app (goodIn_of _ (by decide +kernel)) ggX9_with_X9_isPlace
theorem dX9_with_17 : decode cX9_with 17 = .ok (.invokevirtual 95, 3) := by decide +kernel
theorem dX9_with_20 : decode cX9_with 20 = .ok (.ifCond .ne 10, 3) := by decide +kernel
theorem dX9_with_23 : decode cX9_with 23 = .ok (.aload_n 0, 1) := by decide +kernel
theorem dX9_with_24 : decode cX9_with 24 = .ok (.ldc 99, 2) := by decide +kernel
set_option maxRecDepth 20000 in
theorem ggX9_with_X9_finding : GoodIn wsX9_with wsX9_finding := goodIn_r _ [11, 12, 91, 92, 93, 94, 95, 96, 97, 98, 99, 100, 101] (by decide +kernel) (by decide +kernel)
set_option maxRecDepth 20000 in
theorem gX9_with_X9_finding : GoodIn wsX9_with (wsV RX9 44 RX9 yX9_finding wsX9_finding) := goodIn_app (goodIn_of _ (by decide +kernel)) ggX9_with_X9_finding
theorem dX9_with_26 : decode cX9_with 26 = .ok (.invokevirtual 44, 3) := by decide +kernel
theorem dX9_with_29 : decode cX9_with 29 = .ok (.ireturn, 1) := by decide +kernel
theorem dX9_with_7 : decode cX9_with 7 = .ok (.aload_n 0, 1) := by decide +kernel
theorem dX9_with_8 : decode cX9_with 8 = .ok (.ldc 43, 2) := by decide +kernel
theorem dX9_with_10 : decode cX9_with 10 = .ok (.invokevirtual 44, 3) := by decide +kernel
theorem dX9_with_13 : decode cX9_with 13 = .ok (.ireturn, 1) := by decide +kernel
set_option maxHeartbeats 4000000 in
set_option maxRecDepth 100000 in
theorem xp_X9_with (l : Launch) (D : va_G) (cy : Nat → ClassId) (a : Nat → Nat) (sz : Nat) (RO : Nat → Nat → Option Nat) (x0 : Int32) (x1 : Bool) : Met l yX9_with wsX9_with ({ frames := 2, cells := 0, slots := 0, locals := 45 }) (va_Pc [.ref (a 0), .int x0, .int (bI x1)] (PW D cy sz (CW cy a (fun _ => 0) (fun _ => 0) (va_up (fun _ => none) 100 (some (a 4))) (fun _ _ => 0) RO))) (va_Qi (fun r (_ : Unit) => r = a_fld x0 (-100003)) (fun _ _ => True) (va_A (CW cy a (fun _ => 0) (fun _ => 0) (va_up (fun _ => none) 100 (some (a 4))) (fun _ _ => 0) RO) sz)) 0 0 (va_A (CW cy a (fun _ => 0) (fun _ => 0) (va_up (fun _ => none) 100 (some (a 4))) (fun _ _ => 0) RO) sz) := by
  refine Met.ofW (cc := cX9_with) (maxL := 5) (ret := (some .int)) (by decide) rfl ?_
  intro p e s m args below meth c s₁ B hml hv
  obtain ⟨rfl, rfl, hP, hK, hN, hD0⟩ := hv
  have hx := B.exec
  have hb := B.bytes
  have hr := B.returns
  have hts := atoms_spec (ws := wsX9_with) B.pre
  have hown : s.vm.findClass RX9 = some m.cls := findClass_of_methodNamed B.named
  have hlocks := B.notSynchronized
  have hw0 := hts (.constant RX9 99 (-100003)) (by decide +kernel)
  have hw1 := hts (.constant RX9 43 (-100001)) (by decide +kernel)
  have hD := hD0.self (sz := s.heap.size)
  generalize hAe : va_A (CW cy a (fun _ => 0) (fun _ => 0) (va_up (fun _ => none) 100 (some (a 4))) (fun _ _ => 0) RO) s.heap.size = A at hD ⊢
  have hA : ∀ q : Nat, s.heap.size ≤ q → A q := fun q h => by rw [← hAe]; exact Or.inr h
  have hS : va_S A s.heap s.heap [] := va_S.rf
  have hl := lv_entry ([.ref (a 0), .int x0, .int (bI x1)]) (n := 5) (Nat.le_of_ble_eq_true rfl)
  rw [lg_entry_eq]
  generalize (lg_sl ([.ref (a 0), .int x0, .int (bI x1)]) ++ List.replicate (5 - (lg_sl ([.ref (a 0), .int x0, .int (bI x1)])).length) Slot.unset).toArray = ls at hl ⊢
  have hl : lv_has ls 5 [(0, .ref (a 0)), (1, .int x0), (2, .int (bI x1))] := hl
  refine lv_iload_n hx hb dX9_with_0 rfl (lv_at hl 1 rfl) ?_
  refine kS_i (As := [.int x0]) (rest := []) ⟨hx, hb, hml, hown, hts⟩ (c_X1_isField l x0) (va_cwS 1 hts gX9_with_X1_isField rfl rfl rfl (by decide +kernel) ⟨Nat.le_of_ble_eq_true rfl, Nat.le_of_ble_eq_true rfl⟩) rfl hl.1 rfl (Nat.le_of_ble_eq_true rfl) dX9_with_1 ⟨Nat.le_of_ble_eq_true rfl, Nat.le_of_ble_eq_true rfl⟩ ?_
  refine lv_if_ne (tgt := 14) hx hb dX9_with_4 (by decide) (fun c_1 => ?_) (fun c_1 => ?_)
  · replace c_1 := bI_t c_1
    refine lv_aload_n hx hb dX9_with_14 rfl (lv_at hl 0 rfl) ?_
    refine lv_iload_n hx hb dX9_with_15 rfl (lv_at hl 1 rfl) ?_
    refine lv_iload_n hx hb dX9_with_16 rfl (lv_at hl 2 rfl) ?_
    refine kR_i (As := [.int x0, .int (bI x1)]) (rest := []) (q0 := 0) ⟨hx, hb, hml, hown, hts⟩ (c_X9_isPlace l D cy a _ RO x0 x1 ) (cwV 2 hts gX9_with_X9_isPlace rfl rfl rfl (by decide +kernel) ⟨Nat.le_of_ble_eq_true rfl, Nat.le_of_ble_eq_true rfl⟩) hK hN hP hD rfl rfl rfl hl.1 rfl (Nat.le_of_ble_eq_true rfl) dX9_with_17 ⟨Nat.le_of_ble_eq_true rfl, Nat.le_of_ble_eq_true rfl⟩ ?_
    refine lv_if_ne (tgt := 30) hx hb dX9_with_20 (by decide) (fun c_2 => absurd (by decide) c_2) (fun c_2 => ?_)
    refine lv_aload_n hx hb dX9_with_23 rfl (lv_at hl 0 rfl) ?_
    refine lv_ldc (v := (-100003)) hx hb hown hw0 dX9_with_24 ?_
    refine kM_i (As := [.int (-100003)]) (rest := []) (q0 := 0) ⟨hx, hb, hml, hown, hts⟩ (c_X9_finding l D cy a _ (fun _ => 0) (fun _ => 0) (va_up (fun _ => none) 100 (some (a 4))) (fun _ _ => 0) RO (-100003) ) (cwV 1 hts gX9_with_X9_finding rfl rfl rfl (by decide +kernel) ⟨Nat.le_of_ble_eq_true rfl, Nat.le_of_ble_eq_true rfl⟩) hK hN hP hD hS hA rfl rfl rfl hl.1 rfl (Nat.le_of_ble_eq_true rfl) dX9_with_26 ⟨Nat.le_of_ble_eq_true rfl, Nat.le_of_ble_eq_true rfl⟩ (fun r u H locs hw hP hD hS => ?_)
    obtain ⟨rfl, rfl⟩ := hw
    have hP : va_P D vwCl (CW cy a (fun _ => 0) (va_up (fun _ => 0) 10 (0 + 1)) (va_up (fun _ => none) 100 (some (a 4))) (fun _ _ => 0) RO) H := hP
    have hD : va_D A (CW cy a (fun _ => 0) (va_up (fun _ => 0) 10 (0 + 1)) (va_up (fun _ => none) 100 (some (a 4))) (fun _ _ => 0) RO) := hD
    exact qret_i hx hb hr hlocks (by simp [a_fld, bI, ← g_isField_eq, c_1]) hS dX9_with_29
  · replace c_1 := bI_f c_1
    refine lv_aload_n hx hb dX9_with_7 rfl (lv_at hl 0 rfl) ?_
    refine lv_ldc (v := (-100001)) hx hb hown hw1 dX9_with_8 ?_
    refine kM_i (As := [.int (-100001)]) (rest := []) (q0 := 0) ⟨hx, hb, hml, hown, hts⟩ (c_X9_finding l D cy a _ (fun _ => 0) (fun _ => 0) (va_up (fun _ => none) 100 (some (a 4))) (fun _ _ => 0) RO (-100001) ) (cwV 1 hts gX9_with_X9_finding rfl rfl rfl (by decide +kernel) ⟨Nat.le_of_ble_eq_true rfl, Nat.le_of_ble_eq_true rfl⟩) hK hN hP hD hS hA rfl rfl rfl hl.1 rfl (Nat.le_of_ble_eq_true rfl) dX9_with_10 ⟨Nat.le_of_ble_eq_true rfl, Nat.le_of_ble_eq_true rfl⟩ (fun r u H locs hw hP hD hS => ?_)
    obtain ⟨rfl, rfl⟩ := hw
    have hP : va_P D vwCl (CW cy a (fun _ => 0) (va_up (fun _ => 0) 10 (0 + 1)) (va_up (fun _ => none) 100 (some (a 4))) (fun _ _ => 0) RO) H := hP
    have hD : va_D A (CW cy a (fun _ => 0) (va_up (fun _ => 0) 10 (0 + 1)) (va_up (fun _ => none) 100 (some (a 4))) (fun _ _ => 0) RO) := hD
    exact qret_i hx hb hr hlocks (by simp [a_fld, bI, ← g_isField_eq, c_1]) hS dX9_with_13
theorem dX9_rank_0 : decode cX9_rank 0 = .ok (.aload_n 0, 1) := by decide +kernel
theorem dX9_rank_1 : decode cX9_rank 1 = .ok (.getfield 133, 3) := by decide +kernel
theorem dX9_rank_4 : decode cX9_rank 4 = .ok (.ifnonnull 12, 3) := by decide +kernel
theorem dX9_rank_7 : decode cX9_rank 7 = .ok (.aload_n 0, 1) := by decide +kernel
theorem dX9_rank_8 : decode cX9_rank 8 = .ok (.ldc 137, 2) := by decide +kernel
set_option maxRecDepth 20000 in
theorem ggX9_rank_X9_finding : GoodIn wsX9_rank wsX9_finding := goodIn_r _ [8, 9, 10, 11, 12, 13, 14, 15, 16, 17, 18, 19, 20] (by decide +kernel) (by decide +kernel)
set_option maxRecDepth 20000 in
theorem gX9_rank_X9_finding : GoodIn wsX9_rank (wsV RX9 44 RX9 yX9_finding wsX9_finding) := goodIn_app (goodIn_of _ (by decide +kernel)) ggX9_rank_X9_finding
theorem dX9_rank_10 : decode cX9_rank 10 = .ok (.invokevirtual 44, 3) := by decide +kernel
theorem dX9_rank_13 : decode cX9_rank 13 = .ok (.goto 10, 3) := by decide +kernel
theorem dX9_rank_23 : decode cX9_rank 23 = .ok (.ireturn, 1) := by decide +kernel
set_option maxRecDepth 20000 in
theorem ihX9_rank_9 : ∀ w ∈ u_ws RX9 TX9 11, w ∈ wsX9_rank := by decide +kernel
set_option maxHeartbeats 4000000 in
set_option maxRecDepth 100000 in
theorem xp_X9_rank (l : Launch) (D : va_G) (cy : Nat → ClassId) (a : Nat → Nat) (sz : Nat) (RO : Nat → Nat → Option Nat)  : Met l yX9_rank wsX9_rank ({ frames := 1, cells := 0, slots := 0, locals := 21 }) (va_Pc [.ref (a 0)] (PW D cy sz (CW cy a (fun _ => 0) (fun _ => 0) (va_up (fun _ => none) 100 (some (a 4))) (fun _ _ => 0) RO))) (va_Qi (fun r (_ : Unit) => r = (-100006)) (fun _ _ => True) (va_A (CW cy a (fun _ => 0) (fun _ => 0) (va_up (fun _ => none) 100 (some (a 4))) (fun _ _ => 0) RO) sz)) 0 0 (va_A (CW cy a (fun _ => 0) (fun _ => 0) (va_up (fun _ => none) 100 (some (a 4))) (fun _ _ => 0) RO) sz) := by
  refine Met.ofW (cc := cX9_rank) (maxL := 1) (ret := (some .int)) (by decide) rfl ?_
  intro p e s m args below meth c s₁ B hml hv
  obtain ⟨rfl, rfl, hP, hK, hN, hD0⟩ := hv
  have hx := B.exec
  have hb := B.bytes
  have hr := B.returns
  have hts := atoms_spec (ws := wsX9_rank) B.pre
  have hown : s.vm.findClass RX9 = some m.cls := findClass_of_methodNamed B.named
  have hlocks := B.notSynchronized
  have hw0 := hts (.fieldLink RX9 133 "ParquetLayer" "hand" "LParquetLayer$Laying;") (by decide +kernel)
  have hw1 := hts (.constant RX9 137 (-100006)) (by decide +kernel)
  have hi9 := ihX9_rank_9
  have hD := hD0.self (sz := s.heap.size)
  generalize hAe : va_A (CW cy a (fun _ => 0) (fun _ => 0) (va_up (fun _ => none) 100 (some (a 4))) (fun _ _ => 0) RO) s.heap.size = A at hD ⊢
  have hA : ∀ q : Nat, s.heap.size ≤ q → A q := fun q h => by rw [← hAe]; exact Or.inr h
  have hS : va_S A s.heap s.heap [] := va_S.rf
  have hl := lv_entry ([.ref (a 0)]) (n := 1) (Nat.le_of_ble_eq_true rfl)
  rw [lg_entry_eq]
  generalize (lg_sl ([.ref (a 0)]) ++ List.replicate (1 - (lg_sl ([.ref (a 0)])).length) Slot.unset).toArray = ls at hl ⊢
  have hl : lv_has ls 1 [(0, .ref (a 0))] := hl
  refine lv_aload_n hx hb dX9_rank_0 rfl (lv_at hl 0 rfl) ?_
  refine va_get (D := D) (ci := 8) (v := .null) (C := RX9) (T := TX9) (N := 11) hx hb hts hi9 hown hK hP 0 rfl rfl 8 (by decide) hw0 (fun _ h9 => h9) rfl dX9_rank_1 ?_
  refine lv_ifnonnullN hx hb dX9_rank_4 ?_
  refine lv_aload_n hx hb dX9_rank_7 rfl (lv_at hl 0 rfl) ?_
  refine lv_ldc (v := (-100006)) hx hb hown hw1 dX9_rank_8 ?_
  refine kM_i (As := [.int (-100006)]) (rest := []) (q0 := 0) ⟨hx, hb, hml, hown, hts⟩ (c_X9_finding l D cy a _ (fun _ => 0) (fun _ => 0) (va_up (fun _ => none) 100 (some (a 4))) (fun _ _ => 0) RO (-100006) ) (cwV 1 hts gX9_rank_X9_finding rfl rfl rfl (by decide +kernel) ⟨Nat.le_of_ble_eq_true rfl, Nat.le_of_ble_eq_true rfl⟩) hK hN hP hD hS hA rfl rfl rfl hl.1 rfl (Nat.le_of_ble_eq_true rfl) dX9_rank_10 ⟨Nat.le_of_ble_eq_true rfl, Nat.le_of_ble_eq_true rfl⟩ (fun r u H locs hw hP hD hS => ?_)
  obtain ⟨rfl, rfl⟩ := hw
  have hP : va_P D vwCl (CW cy a (fun _ => 0) (va_up (fun _ => 0) 10 (0 + 1)) (va_up (fun _ => none) 100 (some (a 4))) (fun _ _ => 0) RO) H := hP
  have hD : va_D A (CW cy a (fun _ => 0) (va_up (fun _ => 0) 10 (0 + 1)) (va_up (fun _ => none) 100 (some (a 4))) (fun _ _ => 0) RO) := hD
  refine lv_goto (tgt := 23) hx hb dX9_rank_13 (by decide) ?_
  exact qret_i hx hb hr hlocks rfl hS dX9_rank_23
theorem dX9_next_0 : decode cX9_next 0 = .ok (.aload_n 0, 1) := by decide +kernel
theorem dX9_next_1 : decode cX9_next 1 = .ok (.getfield 133, 3) := by decide +kernel
theorem dX9_next_4 : decode cX9_next 4 = .ok (.ifnull 19, 3) := by decide +kernel
theorem dX9_next_23 : decode cX9_next 23 = .ok (.aload_n 0, 1) := by decide +kernel
theorem dX9_next_24 : decode cX9_next 24 = .ok (.ldc 137, 2) := by decide +kernel
set_option maxRecDepth 20000 in
theorem ggX9_next_X9_finding : GoodIn wsX9_next wsX9_finding := goodIn_r _ [68, 69, 108, 109, 110, 111, 112, 113, 114, 115, 116, 117, 118] (by decide +kernel) (by decide +kernel)
set_option maxRecDepth 20000 in
theorem gX9_next_X9_finding : GoodIn wsX9_next (wsV RX9 44 RX9 yX9_finding wsX9_finding) := goodIn_app (goodIn_of _ (by decide +kernel)) ggX9_next_X9_finding
theorem dX9_next_26 : decode cX9_next 26 = .ok (.invokevirtual 44, 3) := by decide +kernel
theorem dX9_next_29 : decode cX9_next 29 = .ok (.ireturn, 1) := by decide +kernel
set_option maxRecDepth 20000 in
theorem ihX9_next_9 : ∀ w ∈ u_ws RX9 TX9 11, w ∈ wsX9_next := by decide +kernel
set_option maxHeartbeats 4000000 in
set_option maxRecDepth 100000 in
theorem xp_X9_next (l : Launch) (D : va_G) (cy : Nat → ClassId) (a : Nat → Nat) (sz : Nat) (RO : Nat → Nat → Option Nat)  : Met l yX9_next wsX9_next ({ frames := 1, cells := 0, slots := 0, locals := 21 }) (va_Pc [.ref (a 0)] (PW D cy sz (CW cy a (fun _ => 0) (fun _ => 0) (va_up (fun _ => none) 100 (some (a 4))) (fun _ _ => 0) RO))) (va_Qi (fun r (_ : Unit) => r = (-100006)) (fun _ _ => True) (va_A (CW cy a (fun _ => 0) (fun _ => 0) (va_up (fun _ => none) 100 (some (a 4))) (fun _ _ => 0) RO) sz)) 0 0 (va_A (CW cy a (fun _ => 0) (fun _ => 0) (va_up (fun _ => none) 100 (some (a 4))) (fun _ _ => 0) RO) sz) := by
  refine Met.ofW (cc := cX9_next) (maxL := 1) (ret := (some .int)) (by decide) rfl ?_
  intro p e s m args below meth c s₁ B hml hv
  obtain ⟨rfl, rfl, hP, hK, hN, hD0⟩ := hv
  have hx := B.exec
  have hb := B.bytes
  have hr := B.returns
  have hts := atoms_spec (ws := wsX9_next) B.pre
  have hown : s.vm.findClass RX9 = some m.cls := findClass_of_methodNamed B.named
  have hlocks := B.notSynchronized
  have hw0 := hts (.fieldLink RX9 133 "ParquetLayer" "hand" "LParquetLayer$Laying;") (by decide +kernel)
  have hw1 := hts (.constant RX9 137 (-100006)) (by decide +kernel)
  have hi9 := ihX9_next_9
  have hD := hD0.self (sz := s.heap.size)
  generalize hAe : va_A (CW cy a (fun _ => 0) (fun _ => 0) (va_up (fun _ => none) 100 (some (a 4))) (fun _ _ => 0) RO) s.heap.size = A at hD ⊢
  have hA : ∀ q : Nat, s.heap.size ≤ q → A q := fun q h => by rw [← hAe]; exact Or.inr h
  have hS : va_S A s.heap s.heap [] := va_S.rf
  have hl := lv_entry ([.ref (a 0)]) (n := 1) (Nat.le_of_ble_eq_true rfl)
  rw [lg_entry_eq]
  generalize (lg_sl ([.ref (a 0)]) ++ List.replicate (1 - (lg_sl ([.ref (a 0)])).length) Slot.unset).toArray = ls at hl ⊢
  have hl : lv_has ls 1 [(0, .ref (a 0))] := hl
  refine lv_aload_n hx hb dX9_next_0 rfl (lv_at hl 0 rfl) ?_
  refine va_get (D := D) (ci := 8) (v := .null) (C := RX9) (T := TX9) (N := 11) hx hb hts hi9 hown hK hP 0 rfl rfl 8 (by decide) hw0 (fun _ h9 => h9) rfl dX9_next_1 ?_
  refine lv_ifnullN (tgt := 23) hx hb dX9_next_4 (by decide) ?_
  refine lv_aload_n hx hb dX9_next_23 rfl (lv_at hl 0 rfl) ?_
  refine lv_ldc (v := (-100006)) hx hb hown hw1 dX9_next_24 ?_
  refine kM_i (As := [.int (-100006)]) (rest := []) (q0 := 0) ⟨hx, hb, hml, hown, hts⟩ (c_X9_finding l D cy a _ (fun _ => 0) (fun _ => 0) (va_up (fun _ => none) 100 (some (a 4))) (fun _ _ => 0) RO (-100006) ) (cwV 1 hts gX9_next_X9_finding rfl rfl rfl (by decide +kernel) ⟨Nat.le_of_ble_eq_true rfl, Nat.le_of_ble_eq_true rfl⟩) hK hN hP hD hS hA rfl rfl rfl hl.1 rfl (Nat.le_of_ble_eq_true rfl) dX9_next_26 ⟨Nat.le_of_ble_eq_true rfl, Nat.le_of_ble_eq_true rfl⟩ (fun r u H locs hw hP hD hS => ?_)
  obtain ⟨rfl, rfl⟩ := hw
  have hP : va_P D vwCl (CW cy a (fun _ => 0) (va_up (fun _ => 0) 10 (0 + 1)) (va_up (fun _ => none) 100 (some (a 4))) (fun _ _ => 0) RO) H := hP
  have hD : va_D A (CW cy a (fun _ => 0) (va_up (fun _ => 0) 10 (0 + 1)) (va_up (fun _ => none) 100 (some (a 4))) (fun _ _ => 0) RO) := hD
  exact qret_i hx hb hr hlocks rfl hS dX9_next_29
theorem dX9_turns_0 : decode cX9_turns 0 = .ok (.aload_n 0, 1) := by decide +kernel
theorem dX9_turns_1 : decode cX9_turns 1 = .ok (.getfield 133, 3) := by decide +kernel
theorem dX9_turns_4 : decode cX9_turns 4 = .ok (.ifnonnull 10, 3) := by decide +kernel
theorem dX9_turns_7 : decode cX9_turns 7 = .ok (.aload_n 0, 1) := by decide +kernel
theorem dX9_turns_8 : decode cX9_turns 8 = .ok (.ldc 137, 2) := by decide +kernel
set_option maxRecDepth 20000 in
theorem ggX9_turns_X9_finding : GoodIn wsX9_turns wsX9_finding := goodIn_r _ [8, 9, 46, 47, 48, 49, 50, 51, 52, 53, 54, 55, 56] (by decide +kernel) (by decide +kernel)
set_option maxRecDepth 20000 in
theorem gX9_turns_X9_finding : GoodIn wsX9_turns (wsV RX9 44 RX9 yX9_finding wsX9_finding) := goodIn_app (goodIn_of _ (by decide +kernel)) ggX9_turns_X9_finding
theorem dX9_turns_10 : decode cX9_turns 10 = .ok (.invokevirtual 44, 3) := by decide +kernel
theorem dX9_turns_13 : decode cX9_turns 13 = .ok (.ireturn, 1) := by decide +kernel
set_option maxRecDepth 20000 in
theorem ihX9_turns_9 : ∀ w ∈ u_ws RX9 TX9 11, w ∈ wsX9_turns := by decide +kernel
set_option maxHeartbeats 4000000 in
set_option maxRecDepth 100000 in
theorem xp_X9_turns (l : Launch) (D : va_G) (cy : Nat → ClassId) (a : Nat → Nat) (sz : Nat) (RO : Nat → Nat → Option Nat)  : Met l yX9_turns wsX9_turns ({ frames := 1, cells := 0, slots := 0, locals := 21 }) (va_Pc [.ref (a 0)] (PW D cy sz (CW cy a (fun _ => 0) (fun _ => 0) (va_up (fun _ => none) 100 (some (a 4))) (fun _ _ => 0) RO))) (va_Qi (fun r (_ : Unit) => r = (-100006)) (fun _ _ => True) (va_A (CW cy a (fun _ => 0) (fun _ => 0) (va_up (fun _ => none) 100 (some (a 4))) (fun _ _ => 0) RO) sz)) 0 0 (va_A (CW cy a (fun _ => 0) (fun _ => 0) (va_up (fun _ => none) 100 (some (a 4))) (fun _ _ => 0) RO) sz) := by
  refine Met.ofW (cc := cX9_turns) (maxL := 1) (ret := (some .int)) (by decide) rfl ?_
  intro p e s m args below meth c s₁ B hml hv
  obtain ⟨rfl, rfl, hP, hK, hN, hD0⟩ := hv
  have hx := B.exec
  have hb := B.bytes
  have hr := B.returns
  have hts := atoms_spec (ws := wsX9_turns) B.pre
  have hown : s.vm.findClass RX9 = some m.cls := findClass_of_methodNamed B.named
  have hlocks := B.notSynchronized
  have hw0 := hts (.fieldLink RX9 133 "ParquetLayer" "hand" "LParquetLayer$Laying;") (by decide +kernel)
  have hw1 := hts (.constant RX9 137 (-100006)) (by decide +kernel)
  have hi9 := ihX9_turns_9
  have hD := hD0.self (sz := s.heap.size)
  generalize hAe : va_A (CW cy a (fun _ => 0) (fun _ => 0) (va_up (fun _ => none) 100 (some (a 4))) (fun _ _ => 0) RO) s.heap.size = A at hD ⊢
  have hA : ∀ q : Nat, s.heap.size ≤ q → A q := fun q h => by rw [← hAe]; exact Or.inr h
  have hS : va_S A s.heap s.heap [] := va_S.rf
  have hl := lv_entry ([.ref (a 0)]) (n := 1) (Nat.le_of_ble_eq_true rfl)
  rw [lg_entry_eq]
  generalize (lg_sl ([.ref (a 0)]) ++ List.replicate (1 - (lg_sl ([.ref (a 0)])).length) Slot.unset).toArray = ls at hl ⊢
  have hl : lv_has ls 1 [(0, .ref (a 0))] := hl
  refine lv_aload_n hx hb dX9_turns_0 rfl (lv_at hl 0 rfl) ?_
  refine va_get (D := D) (ci := 8) (v := .null) (C := RX9) (T := TX9) (N := 11) hx hb hts hi9 hown hK hP 0 rfl rfl 8 (by decide) hw0 (fun _ h9 => h9) rfl dX9_turns_1 ?_
  refine lv_ifnonnullN hx hb dX9_turns_4 ?_
  refine lv_aload_n hx hb dX9_turns_7 rfl (lv_at hl 0 rfl) ?_
  refine lv_ldc (v := (-100006)) hx hb hown hw1 dX9_turns_8 ?_
  refine kM_i (As := [.int (-100006)]) (rest := []) (q0 := 0) ⟨hx, hb, hml, hown, hts⟩ (c_X9_finding l D cy a _ (fun _ => 0) (fun _ => 0) (va_up (fun _ => none) 100 (some (a 4))) (fun _ _ => 0) RO (-100006) ) (cwV 1 hts gX9_turns_X9_finding rfl rfl rfl (by decide +kernel) ⟨Nat.le_of_ble_eq_true rfl, Nat.le_of_ble_eq_true rfl⟩) hK hN hP hD hS hA rfl rfl rfl hl.1 rfl (Nat.le_of_ble_eq_true rfl) dX9_turns_10 ⟨Nat.le_of_ble_eq_true rfl, Nat.le_of_ble_eq_true rfl⟩ (fun r u H locs hw hP hD hS => ?_)
  obtain ⟨rfl, rfl⟩ := hw
  have hP : va_P D vwCl (CW cy a (fun _ => 0) (va_up (fun _ => 0) 10 (0 + 1)) (va_up (fun _ => none) 100 (some (a 4))) (fun _ _ => 0) RO) H := hP
  have hD : va_D A (CW cy a (fun _ => 0) (va_up (fun _ => 0) 10 (0 + 1)) (va_up (fun _ => none) 100 (some (a 4))) (fun _ _ => 0) RO) := hD
  exact qret_i hx hb hr hlocks rfl hS dX9_turns_13
theorem dX9_undo_0 : decode cX9_undo 0 = .ok (.aload_n 0, 1) := by decide +kernel
theorem dX9_undo_1 : decode cX9_undo 1 = .ok (.getfield 314, 3) := by decide +kernel
theorem dX9_undo_4 : decode cX9_undo 4 = .ok (.ifCond .ne 10, 3) := by decide +kernel
theorem dX9_undo_7 : decode cX9_undo 7 = .ok (.aload_n 0, 1) := by decide +kernel
theorem dX9_undo_8 : decode cX9_undo 8 = .ok (.ldc 137, 2) := by decide +kernel
set_option maxRecDepth 20000 in
theorem ggX9_undo_X9_finding : GoodIn wsX9_undo wsX9_finding := goodIn_r _ [14, 15, 16, 17, 18, 19, 20, 21, 22, 23, 24, 25, 26] (by decide +kernel) (by decide +kernel)
set_option maxRecDepth 20000 in
theorem gX9_undo_X9_finding : GoodIn wsX9_undo (wsV RX9 44 RX9 yX9_finding wsX9_finding) := goodIn_app (goodIn_of _ (by decide +kernel)) ggX9_undo_X9_finding
theorem dX9_undo_10 : decode cX9_undo 10 = .ok (.invokevirtual 44, 3) := by decide +kernel
theorem dX9_undo_13 : decode cX9_undo 13 = .ok (.ireturn, 1) := by decide +kernel
set_option maxRecDepth 20000 in
theorem ihX9_undo_9 : ∀ w ∈ u_ws RX9 TX9 11, w ∈ wsX9_undo := by decide +kernel
set_option maxHeartbeats 4000000 in
set_option maxRecDepth 100000 in
theorem xp_X9_undo (l : Launch) (D : va_G) (cy : Nat → ClassId) (a : Nat → Nat) (sz : Nat) (RO : Nat → Nat → Option Nat)  : Met l yX9_undo wsX9_undo ({ frames := 1, cells := 0, slots := 0, locals := 21 }) (va_Pc [.ref (a 0)] (PW D cy sz (CW cy a (fun _ => 0) (fun _ => 0) (va_up (fun _ => none) 100 (some (a 4))) (fun _ _ => 0) RO))) (va_Qi (fun r (_ : Unit) => r = (-100006)) (fun _ _ => True) (va_A (CW cy a (fun _ => 0) (fun _ => 0) (va_up (fun _ => none) 100 (some (a 4))) (fun _ _ => 0) RO) sz)) 0 0 (va_A (CW cy a (fun _ => 0) (fun _ => 0) (va_up (fun _ => none) 100 (some (a 4))) (fun _ _ => 0) RO) sz) := by
  refine Met.ofW (cc := cX9_undo) (maxL := 2) (ret := (some .int)) (by decide) rfl ?_
  intro p e s m args below meth c s₁ B hml hv
  obtain ⟨rfl, rfl, hP, hK, hN, hD0⟩ := hv
  have hx := B.exec
  have hb := B.bytes
  have hr := B.returns
  have hts := atoms_spec (ws := wsX9_undo) B.pre
  have hown : s.vm.findClass RX9 = some m.cls := findClass_of_methodNamed B.named
  have hlocks := B.notSynchronized
  have hw0 := hts (.fieldLink RX9 314 "ParquetLayer" "kept" "I") (by decide +kernel)
  have hw1 := hts (.constant RX9 137 (-100006)) (by decide +kernel)
  have hi9 := ihX9_undo_9
  have hD := hD0.self (sz := s.heap.size)
  generalize hAe : va_A (CW cy a (fun _ => 0) (fun _ => 0) (va_up (fun _ => none) 100 (some (a 4))) (fun _ _ => 0) RO) s.heap.size = A at hD ⊢
  have hA : ∀ q : Nat, s.heap.size ≤ q → A q := fun q h => by rw [← hAe]; exact Or.inr h
  have hS : va_S A s.heap s.heap [] := va_S.rf
  have hl := lv_entry ([.ref (a 0)]) (n := 2) (Nat.le_of_ble_eq_true rfl)
  rw [lg_entry_eq]
  generalize (lg_sl ([.ref (a 0)]) ++ List.replicate (2 - (lg_sl ([.ref (a 0)])).length) Slot.unset).toArray = ls at hl ⊢
  have hl : lv_has ls 2 [(0, .ref (a 0))] := hl
  refine lv_aload_n hx hb dX9_undo_0 rfl (lv_at hl 0 rfl) ?_
  refine va_get (D := D) (ci := 8) (v := .int 0) (C := RX9) (T := TX9) (N := 11) hx hb hts hi9 hown hK hP 0 rfl rfl 9 (by decide) hw0 (fun _ h9 => h9) rfl dX9_undo_1 ?_
  refine lv_if_ne (tgt := 14) hx hb dX9_undo_4 (by decide) (fun c_1 => absurd (by decide) c_1) (fun c_1 => ?_)
  refine lv_aload_n hx hb dX9_undo_7 rfl (lv_at hl 0 rfl) ?_
  refine lv_ldc (v := (-100006)) hx hb hown hw1 dX9_undo_8 ?_
  refine kM_i (As := [.int (-100006)]) (rest := []) (q0 := 0) ⟨hx, hb, hml, hown, hts⟩ (c_X9_finding l D cy a _ (fun _ => 0) (fun _ => 0) (va_up (fun _ => none) 100 (some (a 4))) (fun _ _ => 0) RO (-100006) ) (cwV 1 hts gX9_undo_X9_finding rfl rfl rfl (by decide +kernel) ⟨Nat.le_of_ble_eq_true rfl, Nat.le_of_ble_eq_true rfl⟩) hK hN hP hD hS hA rfl rfl rfl hl.1 rfl (Nat.le_of_ble_eq_true rfl) dX9_undo_10 ⟨Nat.le_of_ble_eq_true rfl, Nat.le_of_ble_eq_true rfl⟩ (fun r u H locs hw hP hD hS => ?_)
  obtain ⟨rfl, rfl⟩ := hw
  have hP : va_P D vwCl (CW cy a (fun _ => 0) (va_up (fun _ => 0) 10 (0 + 1)) (va_up (fun _ => none) 100 (some (a 4))) (fun _ _ => 0) RO) H := hP
  have hD : va_D A (CW cy a (fun _ => 0) (va_up (fun _ => 0) 10 (0 + 1)) (va_up (fun _ => none) 100 (some (a 4))) (fun _ _ => 0) RO) := hD
  exact qret_i hx hb hr hlocks rfl hS dX9_undo_13
theorem dX9_draw_0 : decode cX9_draw 0 = .ok (.aload_n 0, 1) := by decide +kernel
set_option maxRecDepth 20000 in
theorem ggX9_draw_X9_knownLayings : GoodIn wsX9_draw wsX9_knownLayings := goodIn_r _ [8, 9, 10, 11, 12, 13, 14, 15, 16, 17, 18, 19, 20, 21, 22, 23, 24, 25, 7, 26, 27, 28, 29, 30, 31, 32, 33, 34, 35, 36, 37, 38, 39, 40, 41, 42, 43, 44, 45, 46, 47, 48, 49, 50, 51, 52, 53, 54, 55, 56, 109, 110, 111, 112, 113, 114, 115, 116, 117, 118, 119, 123, 124, 125, 126, 127, 128, 129, 130, 131, 132, 133] (by decide +kernel) (by decide +kernel)
set_option maxRecDepth 20000 in
theorem gX9_draw_X9_knownLayings : GoodIn wsX9_draw (wsV RX9 170 RX9 yX9_knownLayings wsX9_knownLayings) := goodIn_app (goodIn_of _ (by decide +kernel)) ggX9_draw_X9_knownLayings
theorem dX9_draw_1 : decode cX9_draw 1 = .ok (.invokevirtual 170, 3) := by decide +kernel
set_option maxRecDepth 20000 in
theorem ggX9_draw_X4_total : GoodIn wsX9_draw wsX4_total := goodIn_r _ [60, 21, 123, 124, 125, 126] (by decide +kernel) (by decide +kernel)
set_option maxRecDepth 20000 in
theorem gX9_draw_X4_total : GoodIn wsX9_draw (wsV RX9 174 RX4 yX4_total wsX4_total) := goodIn_app (goodIn_of _ (by decide +kernel)) ggX9_draw_X4_total
theorem dX9_draw_4 : decode cX9_draw 4 = .ok (.invokevirtual 174, 3) := by decide +kernel
theorem dX9_draw_7 : decode cX9_draw 7 = .ok (.istore_n 2, 1) := by decide +kernel
theorem dX9_draw_8 : decode cX9_draw 8 = .ok (.iload_n 2, 1) := by decide +kernel
theorem dX9_draw_9 : decode cX9_draw 9 = .ok (.ifCond .ne 10, 3) := by decide +kernel
theorem dX9_draw_19 : decode cX9_draw 19 = .ok (.aload_n 0, 1) := by decide +kernel
theorem dX9_draw_20 : decode cX9_draw 20 = .ok (.aload_n 0, 1) := by decide +kernel
theorem dX9_draw_21 : decode cX9_draw 21 = .ok (.iload_n 1, 1) := by decide +kernel
theorem dX9_draw_22 : decode cX9_draw 22 = .ok (.iload_n 2, 1) := by decide +kernel
set_option maxRecDepth 20000 in
theorem ggX9_draw_X9_drawnNumber : GoodIn wsX9_draw wsX9_drawnNumber := goodIn_r _ [68, 69, 70] (by decide +kernel) (by decide +kernel)
set_option maxRecDepth 20000 in
theorem gX9_draw_X9_drawnNumber : GoodIn wsX9_draw (va_wsS RX9 197 yX9_drawnNumber wsX9_drawnNumber) := goodIn_app (goodIn_of _ (by decide +kernel)) ggX9_draw_X9_drawnNumber
theorem dX9_draw_23 : decode cX9_draw 23 = .ok (.invokestatic 197, 3) := by decide +kernel
set_option maxRecDepth 20000 in
theorem ggX9_draw_X9_layingOf : GoodIn wsX9_draw wsX9_layingOf := goodIn_r _ [74, 75, 76, 77, 4, 5, 6, 7, 8, 9, 10, 11, 12, 13, 14, 15, 16, 17, 18, 19, 20, 21, 22, 23, 24, 25, 26, 27, 28, 29, 30, 31, 32, 33, 34, 35, 36, 37, 38, 39, 40, 41, 42, 43, 44, 45, 46, 47, 48, 49, 50, 51, 52, 53, 54, 55, 56, 78, 79, 80, 81, 82, 83, 84, 85, 86, 87, 88, 89, 90, 91, 92, 93, 94, 95, 96, 97, 98, 99, 100, 101, 102, 103, 104, 105, 106, 107, 108, 120, 121, 122, 109, 110, 111, 112, 113, 114, 115, 116, 117, 118, 119, 123, 124, 125, 126, 127, 128, 129, 130, 131, 132, 133] (by decide +kernel) (by decide +kernel)
set_option maxRecDepth 20000 in
theorem gX9_draw_X9_layingOf : GoodIn wsX9_draw (wsV RX9 192 RX9 yX9_layingOf wsX9_layingOf) := goodIn_app (goodIn_of _ (by decide +kernel)) ggX9_draw_X9_layingOf
theorem dX9_draw_26 : decode cX9_draw 26 = .ok (.invokevirtual 192, 3) := by decide +kernel
theorem dX9_draw_29 : decode cX9_draw 29 = .ok (.putfield 133, 3) := by decide +kernel
theorem dX9_draw_32 : decode cX9_draw 32 = .ok (.aload_n 0, 1) := by decide +kernel
theorem dX9_draw_33 : decode cX9_draw 33 = .ok (.getfield 133, 3) := by decide +kernel
theorem dX9_draw_36 : decode cX9_draw 36 = .ok (.getfield 196, 3) := by decide +kernel
theorem dX9_draw_39 : decode cX9_draw 39 = .ok (.ireturn, 1) := by decide +kernel
set_option maxRecDepth 20000 in
theorem ihX9_draw_3 : ∀ w ∈ u_ws RX3 TX3 3, w ∈ wsX9_draw := by decide +kernel
set_option maxRecDepth 20000 in
theorem ihX9_draw_9 : ∀ w ∈ u_ws RX9 TX9 11, w ∈ wsX9_draw := by decide +kernel
set_option maxHeartbeats 4000000 in
set_option maxRecDepth 100000 in
theorem xp_X9_draw (l : Launch) (D : va_G) (cy : Nat → ClassId) (a : Nat → Nat) (sz : Nat) (RO : Nat → Nat → Option Nat) (x0 : Int32) : Met l yX9_draw wsX9_draw ({ frames := 5, cells := 4, slots := 17159, locals := 119 }) (va_Pc [.ref (a 0), .int x0] (PW D cy sz (CW cy a (fun _ => 0) (fun _ => 0) (va_up (fun _ => none) 100 (some (a 4))) (fun _ _ => 0) RO))) (va_Qi (fun r (_ : Unit) => r = 0) (fun _ _ => True) (va_A (CW cy a (fun _ => 0) (fun _ => 0) (va_up (fun _ => none) 100 (some (a 4))) (fun _ _ => 0) RO) sz)) 4 17159 (va_A (CW cy a (fun _ => 0) (fun _ => 0) (va_up (fun _ => none) 100 (some (a 4))) (fun _ _ => 0) RO) sz) := by
  refine Met.ofW (cc := cX9_draw) (maxL := 3) (ret := (some .int)) (by decide) rfl ?_
  intro p e s m args below meth c s₁ B hml hv
  obtain ⟨rfl, rfl, hP, hK, hN, hD0⟩ := hv
  have hx := B.exec
  have hb := B.bytes
  have hr := B.returns
  have hts := atoms_spec (ws := wsX9_draw) B.pre
  have hown : s.vm.findClass RX9 = some m.cls := findClass_of_methodNamed B.named
  have hlocks := B.notSynchronized
  have hw0 := hts (.fieldLink RX9 133 "ParquetLayer" "hand" "LParquetLayer$Laying;") (by decide +kernel)
  have hw1 := hts (.fieldLink RX9 196 "ParquetLayer$Laying" "number" "I") (by decide +kernel)
  have hi3 := ihX9_draw_3
  have hi9 := ihX9_draw_9
  have hD := hD0.self (sz := s.heap.size)
  generalize hAe : va_A (CW cy a (fun _ => 0) (fun _ => 0) (va_up (fun _ => none) 100 (some (a 4))) (fun _ _ => 0) RO) s.heap.size = A at hD ⊢
  have hA : ∀ q : Nat, s.heap.size ≤ q → A q := fun q h => by rw [← hAe]; exact Or.inr h
  have hS : va_S A s.heap s.heap [] := va_S.rf
  have hl := lv_entry ([.ref (a 0), .int x0]) (n := 3) (Nat.le_of_ble_eq_true rfl)
  rw [lg_entry_eq]
  generalize (lg_sl ([.ref (a 0), .int x0]) ++ List.replicate (3 - (lg_sl ([.ref (a 0), .int x0])).length) Slot.unset).toArray = ls at hl ⊢
  have hl : lv_has ls 3 [(0, .ref (a 0)), (1, .int x0)] := hl
  refine lv_aload_n hx hb dX9_draw_0 rfl (lv_at hl 0 rfl) ?_
  refine kM_r (As := []) (rest := []) (q0 := 0) ⟨hx, hb, hml, hown, hts⟩ (mr_known0 l D cy a _ RO  ) (cwV 0 hts gX9_draw_X9_knownLayings rfl rfl rfl (by decide +kernel) ⟨Nat.le_of_ble_eq_true rfl, Nat.le_of_ble_eq_true rfl⟩) hK hN hP hD hS hA rfl rfl rfl hl.1 rfl (Nat.le_of_ble_eq_true rfl) dX9_draw_1 ⟨Nat.le_of_ble_eq_true rfl, Nat.le_of_ble_eq_true rfl⟩ (fun u r H locs hw hP hD hS => ?_)
  obtain ⟨q_2, q_3, W_4⟩ := u
  have hW_5 : W_4 0 = 1 := hw
  obtain ⟨q_1, rfl⟩ : ∃ z, z = r := ⟨_, rfl⟩
  have hP : va_P D vwCl (CL cy (ext a q_1 q_2 q_3) (fun _ => 0) (va_up (fun _ => 0) 643 1) (va_up (va_up (fun _ => none) 100 (some (a 4))) 5 (some q_1)) (va_up (fun _ _ => 0) 21 W_4) RO) H := hP
  have hD : va_D A (CL cy (ext a q_1 q_2 q_3) (fun _ => 0) (va_up (fun _ => 0) 643 1) (va_up (va_up (fun _ => none) 100 (some (a 4))) 5 (some q_1)) (va_up (fun _ _ => 0) 21 W_4) RO) := hD
  refine kR_i (As := []) (rest := []) (q0 := 20) ⟨hx, hb, hml, hown, hts⟩ (c_X4_total l D cy (ext a q_1 q_2 q_3) _ RO  W_4) (cwV 0 hts gX9_draw_X4_total rfl rfl rfl (by decide +kernel) ⟨Nat.le_of_ble_eq_true rfl, Nat.le_of_ble_eq_true rfl⟩) hK hN hP hD rfl rfl rfl hl.1 rfl (Nat.le_of_ble_eq_true rfl) dX9_draw_4 ⟨Nat.le_of_ble_eq_true rfl, Nat.le_of_ble_eq_true rfl⟩ ?_
  refine wtop_i (y := 1) hW_5 ?_
  refine lv_istore_n (lv' := [(2, .int 1), (0, .ref (a 0)), (1, .int x0)]) hx hb dX9_draw_7 rfl hl (by decide) rfl (fun ls hl => ?_)
  refine lv_iload_n hx hb dX9_draw_8 rfl (lv_at hl 0 rfl) ?_
  refine lv_if_ne (tgt := 19) hx hb dX9_draw_9 (by decide) (fun c_6 => ?_) (fun c_6 => absurd c_6 (by decide))
  refine lv_aload_n hx hb dX9_draw_19 rfl (lv_at hl 1 rfl) ?_
  refine lv_aload_n hx hb dX9_draw_20 rfl (lv_at hl 1 rfl) ?_
  refine lv_iload_n hx hb dX9_draw_21 rfl (lv_at hl 2 rfl) ?_
  refine lv_iload_n hx hb dX9_draw_22 rfl (lv_at hl 0 rfl) ?_
  refine kS_i (As := [.int x0, .int 1]) (rest := [.ref (a 0), .ref (a 0)]) ⟨hx, hb, hml, hown, hts⟩ (c_X9_drawn1 l x0) (va_cwS 2 hts gX9_draw_X9_drawnNumber rfl rfl rfl (by decide +kernel) ⟨Nat.le_of_ble_eq_true rfl, Nat.le_of_ble_eq_true rfl⟩) rfl hl.1 rfl (Nat.le_of_ble_eq_true rfl) dX9_draw_23 ⟨Nat.le_of_ble_eq_true rfl, Nat.le_of_ble_eq_true rfl⟩ ?_
  refine kM_r (As := [.int 0]) (rest := [.ref (a 0)]) (q0 := 0) ⟨hx, hb, hml, hown, hts⟩ (mr_layingOf l D cy (ext a q_1 q_2 q_3) _ RO 0 W_4 hW_5) (cwV 1 hts gX9_draw_X9_layingOf rfl rfl rfl (by decide +kernel) ⟨Nat.le_of_ble_eq_true rfl, Nat.le_of_ble_eq_true rfl⟩) hK hN hP hD hS hA rfl rfl rfl hl.1 rfl (Nat.le_of_ble_eq_true rfl) dX9_draw_26 ⟨Nat.le_of_ble_eq_true rfl, Nat.le_of_ble_eq_true rfl⟩ (fun u r H locs hw hP hD hS => ?_)
  obtain ⟨q_7, q_8, q_9, W_10⟩ := u
  obtain ⟨q_11, rfl⟩ : ∃ z, z = r := ⟨_, rfl⟩
  have hP : va_P D vwCl (CL cy (ext a q_7 q_8 q_9) (fun _ => 0) (va_up (fun _ => 0) 643 1) (va_up (va_up (fun _ => none) 100 (some (a 4))) 5 (some q_7)) (va_up (fun _ _ => 0) 21 W_10) RO ++ [(q_11, .inr (2, [.int 0, .long 0, .long 0]))]) H := hP
  have hD : va_D A (CL cy (ext a q_7 q_8 q_9) (fun _ => 0) (va_up (fun _ => 0) 643 1) (va_up (va_up (fun _ => none) 100 (some (a 4))) 5 (some q_7)) (va_up (fun _ _ => 0) 21 W_10) RO ++ [(q_11, .inr (2, [.int 0, .long 0, .long 0]))]) := hD
  refine va_put (D := D) (ci := 8) (v := .ref q_11) (ty := .object "ParquetLayer$Laying") (C := RX9) (T := TX9) (N := 11) hx hb hts hi9 tyX9 tyX9_ok nmX9 hown hK hP hD hS 0 rfl rfl 8 (by decide) hw0 (fun _ h9 => h9) rfl (by decide +kernel) rfl rfl (Nat.le_of_ble_eq_true rfl) dX9_draw_29 (fun H locs hP hD hS => ?_)
  have hP : va_P D vwCl (CL cy (ext a q_7 q_8 q_9) (fun _ => 0) (va_up (fun _ => 0) 643 1) (va_up (va_up (va_up (fun _ => none) 100 (some (a 4))) 5 (some q_7)) 8 (some q_11)) (va_up (fun _ _ => 0) 21 W_10) RO ++ [(q_11, .inr (2, [.int 0, .long 0, .long 0]))]) H := hP
  have hD : va_D A (CL cy (ext a q_7 q_8 q_9) (fun _ => 0) (va_up (fun _ => 0) 643 1) (va_up (va_up (va_up (fun _ => none) 100 (some (a 4))) 5 (some q_7)) 8 (some q_11)) (va_up (fun _ _ => 0) 21 W_10) RO ++ [(q_11, .inr (2, [.int 0, .long 0, .long 0]))]) := hD
  refine lv_aload_n hx hb dX9_draw_32 rfl (lv_at hl 1 rfl) ?_
  refine va_get (D := D) (ci := 8) (v := .ref q_11) (C := RX9) (T := TX9) (N := 11) hx hb hts hi9 hown hK hP 0 rfl rfl 8 (by decide) hw0 (fun _ h9 => h9) rfl dX9_draw_33 ?_
  refine va_get (D := D) (ci := 2) (v := .int 0) (C := RX3) (T := TX3) (N := 3) hx hb hts hi3 hown hK hP 23 rfl rfl 0 (by decide) hw1 (fun _ h9 => h9) rfl dX9_draw_36 ?_
  exact qret_i hx hb hr hlocks rfl hS dX9_draw_39
theorem dX9_partner_0 : decode cX9_partner 0 = .ok (.iload_n 1, 1) := by decide +kernel
set_option maxRecDepth 20000 in
theorem ggX9_partner_X1_isField : GoodIn wsX9_partner wsX1_isField := goodIn_r _ [8] (by decide +kernel) (by decide +kernel)
set_option maxRecDepth 20000 in
theorem gX9_partner_X1_isField : GoodIn wsX9_partner (va_wsS RX9 60 yX1_isField wsX1_isField) := goodIn_app (goodIn_of _ (by decide +kernel)) ggX9_partner_X1_isField
theorem dX9_partner_1 : decode cX9_partner 1 = .ok (.invokestatic 60, 3) := by decide +kernel
theorem dX9_partner_4 : decode cX9_partner 4 = .ok (.ifCond .ne 10, 3) := by decide +kernel
theorem dX9_partner_14 : decode cX9_partner 14 = .ok (.aload_n 0, 1) := by decide +kernel
theorem dX9_partner_15 : decode cX9_partner 15 = .ok (.getfield 133, 3) := by decide +kernel
theorem dX9_partner_18 : decode cX9_partner 18 = .ok (.ifnull 14, 3) := by decide +kernel
theorem dX9_partner_32 : decode cX9_partner 32 = .ok (.aload_n 0, 1) := by decide +kernel
theorem dX9_partner_33 : decode cX9_partner 33 = .ok (.ldc 137, 2) := by decide +kernel
set_option maxRecDepth 20000 in
theorem ggX9_partner_X9_finding : GoodIn wsX9_partner wsX9_finding := goodIn_r _ [13, 14, 26, 27, 28, 29, 30, 31, 32, 33, 34, 35, 36] (by decide +kernel) (by decide +kernel)
set_option maxRecDepth 20000 in
theorem gX9_partner_X9_finding : GoodIn wsX9_partner (wsV RX9 44 RX9 yX9_finding wsX9_finding) := goodIn_app (goodIn_of _ (by decide +kernel)) ggX9_partner_X9_finding
theorem dX9_partner_35 : decode cX9_partner 35 = .ok (.invokevirtual 44, 3) := by decide +kernel
theorem dX9_partner_38 : decode cX9_partner 38 = .ok (.ireturn, 1) := by decide +kernel
theorem dX9_partner_7 : decode cX9_partner 7 = .ok (.aload_n 0, 1) := by decide +kernel
theorem dX9_partner_8 : decode cX9_partner 8 = .ok (.ldc 43, 2) := by decide +kernel
theorem dX9_partner_10 : decode cX9_partner 10 = .ok (.invokevirtual 44, 3) := by decide +kernel
theorem dX9_partner_13 : decode cX9_partner 13 = .ok (.ireturn, 1) := by decide +kernel
set_option maxRecDepth 20000 in
theorem ihX9_partner_9 : ∀ w ∈ u_ws RX9 TX9 11, w ∈ wsX9_partner := by decide +kernel
set_option maxHeartbeats 4000000 in
set_option maxRecDepth 100000 in
theorem xp_X9_partner (l : Launch) (D : va_G) (cy : Nat → ClassId) (a : Nat → Nat) (sz : Nat) (RO : Nat → Nat → Option Nat) (x0 : Int32) : Met l yX9_partner wsX9_partner ({ frames := 1, cells := 0, slots := 0, locals := 21 }) (va_Pc [.ref (a 0), .int x0] (PW D cy sz (CW cy a (fun _ => 0) (fun _ => 0) (va_up (fun _ => none) 100 (some (a 4))) (fun _ _ => 0) RO))) (va_Qi (fun r (_ : Unit) => r = a_fld x0 (-100006)) (fun _ _ => True) (va_A (CW cy a (fun _ => 0) (fun _ => 0) (va_up (fun _ => none) 100 (some (a 4))) (fun _ _ => 0) RO) sz)) 0 0 (va_A (CW cy a (fun _ => 0) (fun _ => 0) (va_up (fun _ => none) 100 (some (a 4))) (fun _ _ => 0) RO) sz) := by
  refine Met.ofW (cc := cX9_partner) (maxL := 2) (ret := (some .int)) (by decide) rfl ?_
  intro p e s m args below meth c s₁ B hml hv
  obtain ⟨rfl, rfl, hP, hK, hN, hD0⟩ := hv
  have hx := B.exec
  have hb := B.bytes
  have hr := B.returns
  have hts := atoms_spec (ws := wsX9_partner) B.pre
  have hown : s.vm.findClass RX9 = some m.cls := findClass_of_methodNamed B.named
  have hlocks := B.notSynchronized
  have hw0 := hts (.fieldLink RX9 133 "ParquetLayer" "hand" "LParquetLayer$Laying;") (by decide +kernel)
  have hw1 := hts (.constant RX9 137 (-100006)) (by decide +kernel)
  have hw2 := hts (.constant RX9 43 (-100001)) (by decide +kernel)
  have hi9 := ihX9_partner_9
  have hD := hD0.self (sz := s.heap.size)
  generalize hAe : va_A (CW cy a (fun _ => 0) (fun _ => 0) (va_up (fun _ => none) 100 (some (a 4))) (fun _ _ => 0) RO) s.heap.size = A at hD ⊢
  have hA : ∀ q : Nat, s.heap.size ≤ q → A q := fun q h => by rw [← hAe]; exact Or.inr h
  have hS : va_S A s.heap s.heap [] := va_S.rf
  have hl := lv_entry ([.ref (a 0), .int x0]) (n := 2) (Nat.le_of_ble_eq_true rfl)
  rw [lg_entry_eq]
  generalize (lg_sl ([.ref (a 0), .int x0]) ++ List.replicate (2 - (lg_sl ([.ref (a 0), .int x0])).length) Slot.unset).toArray = ls at hl ⊢
  have hl : lv_has ls 2 [(0, .ref (a 0)), (1, .int x0)] := hl
  refine lv_iload_n hx hb dX9_partner_0 rfl (lv_at hl 1 rfl) ?_
  refine kS_i (As := [.int x0]) (rest := []) ⟨hx, hb, hml, hown, hts⟩ (c_X1_isField l x0) (va_cwS 1 hts gX9_partner_X1_isField rfl rfl rfl (by decide +kernel) ⟨Nat.le_of_ble_eq_true rfl, Nat.le_of_ble_eq_true rfl⟩) rfl hl.1 rfl (Nat.le_of_ble_eq_true rfl) dX9_partner_1 ⟨Nat.le_of_ble_eq_true rfl, Nat.le_of_ble_eq_true rfl⟩ ?_
  refine lv_if_ne (tgt := 14) hx hb dX9_partner_4 (by decide) (fun c_1 => ?_) (fun c_1 => ?_)
  · replace c_1 := bI_t c_1
    refine lv_aload_n hx hb dX9_partner_14 rfl (lv_at hl 0 rfl) ?_
    refine va_get (D := D) (ci := 8) (v := .null) (C := RX9) (T := TX9) (N := 11) hx hb hts hi9 hown hK hP 0 rfl rfl 8 (by decide) hw0 (fun _ h9 => h9) rfl dX9_partner_15 ?_
    refine lv_ifnullN (tgt := 32) hx hb dX9_partner_18 (by decide) ?_
    refine lv_aload_n hx hb dX9_partner_32 rfl (lv_at hl 0 rfl) ?_
    refine lv_ldc (v := (-100006)) hx hb hown hw1 dX9_partner_33 ?_
    refine kM_i (As := [.int (-100006)]) (rest := []) (q0 := 0) ⟨hx, hb, hml, hown, hts⟩ (c_X9_finding l D cy a _ (fun _ => 0) (fun _ => 0) (va_up (fun _ => none) 100 (some (a 4))) (fun _ _ => 0) RO (-100006) ) (cwV 1 hts gX9_partner_X9_finding rfl rfl rfl (by decide +kernel) ⟨Nat.le_of_ble_eq_true rfl, Nat.le_of_ble_eq_true rfl⟩) hK hN hP hD hS hA rfl rfl rfl hl.1 rfl (Nat.le_of_ble_eq_true rfl) dX9_partner_35 ⟨Nat.le_of_ble_eq_true rfl, Nat.le_of_ble_eq_true rfl⟩ (fun r u H locs hw hP hD hS => ?_)
    obtain ⟨rfl, rfl⟩ := hw
    have hP : va_P D vwCl (CW cy a (fun _ => 0) (va_up (fun _ => 0) 10 (0 + 1)) (va_up (fun _ => none) 100 (some (a 4))) (fun _ _ => 0) RO) H := hP
    have hD : va_D A (CW cy a (fun _ => 0) (va_up (fun _ => 0) 10 (0 + 1)) (va_up (fun _ => none) 100 (some (a 4))) (fun _ _ => 0) RO) := hD
    exact qret_i hx hb hr hlocks (by simp [a_fld, bI, ← g_isField_eq, c_1]) hS dX9_partner_38
  · replace c_1 := bI_f c_1
    refine lv_aload_n hx hb dX9_partner_7 rfl (lv_at hl 0 rfl) ?_
    refine lv_ldc (v := (-100001)) hx hb hown hw2 dX9_partner_8 ?_
    refine kM_i (As := [.int (-100001)]) (rest := []) (q0 := 0) ⟨hx, hb, hml, hown, hts⟩ (c_X9_finding l D cy a _ (fun _ => 0) (fun _ => 0) (va_up (fun _ => none) 100 (some (a 4))) (fun _ _ => 0) RO (-100001) ) (cwV 1 hts gX9_partner_X9_finding rfl rfl rfl (by decide +kernel) ⟨Nat.le_of_ble_eq_true rfl, Nat.le_of_ble_eq_true rfl⟩) hK hN hP hD hS hA rfl rfl rfl hl.1 rfl (Nat.le_of_ble_eq_true rfl) dX9_partner_10 ⟨Nat.le_of_ble_eq_true rfl, Nat.le_of_ble_eq_true rfl⟩ (fun r u H locs hw hP hD hS => ?_)
    obtain ⟨rfl, rfl⟩ := hw
    have hP : va_P D vwCl (CW cy a (fun _ => 0) (va_up (fun _ => 0) 10 (0 + 1)) (va_up (fun _ => none) 100 (some (a 4))) (fun _ _ => 0) RO) H := hP
    have hD : va_D A (CW cy a (fun _ => 0) (va_up (fun _ => 0) 10 (0 + 1)) (va_up (fun _ => none) 100 (some (a 4))) (fun _ _ => 0) RO) := hD
    exact qret_i hx hb hr hlocks (by simp [a_fld, bI, ← g_isField_eq, c_1]) hS dX9_partner_13
theorem dX9_turn_0 : decode cX9_turn 0 = .ok (.iload_n 1, 1) := by decide +kernel
set_option maxRecDepth 20000 in
theorem ggX9_turn_X8_isCorner : GoodIn wsX9_turn wsX8_isCorner := goodIn_r _ [10] (by decide +kernel) (by decide +kernel)
set_option maxRecDepth 20000 in
theorem gX9_turn_X8_isCorner : GoodIn wsX9_turn (va_wsS RX9 211 yX8_isCorner wsX8_isCorner) := goodIn_app (goodIn_of _ (by decide +kernel)) ggX9_turn_X8_isCorner
theorem dX9_turn_1 : decode cX9_turn 1 = .ok (.invokestatic 211, 3) := by decide +kernel
theorem dX9_turn_4 : decode cX9_turn 4 = .ok (.ifCond .ne 10, 3) := by decide +kernel
theorem dX9_turn_14 : decode cX9_turn 14 = .ok (.aload_n 0, 1) := by decide +kernel
theorem dX9_turn_15 : decode cX9_turn 15 = .ok (.getfield 133, 3) := by decide +kernel
theorem dX9_turn_18 : decode cX9_turn 18 = .ok (.ifnonnull 10, 3) := by decide +kernel
theorem dX9_turn_21 : decode cX9_turn 21 = .ok (.aload_n 0, 1) := by decide +kernel
theorem dX9_turn_22 : decode cX9_turn 22 = .ok (.ldc 137, 2) := by decide +kernel
set_option maxRecDepth 20000 in
theorem ggX9_turn_X9_finding : GoodIn wsX9_turn wsX9_finding := goodIn_r _ [15, 16, 129, 130, 131, 132, 133, 134, 135, 136, 137, 138, 139] (by decide +kernel) (by decide +kernel)
set_option maxRecDepth 20000 in
theorem gX9_turn_X9_finding : GoodIn wsX9_turn (wsV RX9 44 RX9 yX9_finding wsX9_finding) := goodIn_app (goodIn_of _ (by decide +kernel)) ggX9_turn_X9_finding
theorem dX9_turn_24 : decode cX9_turn 24 = .ok (.invokevirtual 44, 3) := by decide +kernel
theorem dX9_turn_27 : decode cX9_turn 27 = .ok (.ireturn, 1) := by decide +kernel
theorem dX9_turn_7 : decode cX9_turn 7 = .ok (.aload_n 0, 1) := by decide +kernel
theorem dX9_turn_8 : decode cX9_turn 8 = .ok (.ldc 43, 2) := by decide +kernel
theorem dX9_turn_10 : decode cX9_turn 10 = .ok (.invokevirtual 44, 3) := by decide +kernel
theorem dX9_turn_13 : decode cX9_turn 13 = .ok (.ireturn, 1) := by decide +kernel
set_option maxRecDepth 20000 in
theorem ihX9_turn_9 : ∀ w ∈ u_ws RX9 TX9 11, w ∈ wsX9_turn := by decide +kernel
set_option maxHeartbeats 4000000 in
set_option maxRecDepth 100000 in
theorem xp_X9_turn (l : Launch) (D : va_G) (cy : Nat → ClassId) (a : Nat → Nat) (sz : Nat) (RO : Nat → Nat → Option Nat) (x0 : Int32) : Met l yX9_turn wsX9_turn ({ frames := 1, cells := 0, slots := 0, locals := 21 }) (va_Pc [.ref (a 0), .int x0] (PW D cy sz (CW cy a (fun _ => 0) (fun _ => 0) (va_up (fun _ => none) 100 (some (a 4))) (fun _ _ => 0) RO))) (va_Qi (fun r (_ : Unit) => r = a_turn x0) (fun _ _ => True) (va_A (CW cy a (fun _ => 0) (fun _ => 0) (va_up (fun _ => none) 100 (some (a 4))) (fun _ _ => 0) RO) sz)) 0 0 (va_A (CW cy a (fun _ => 0) (fun _ => 0) (va_up (fun _ => none) 100 (some (a 4))) (fun _ _ => 0) RO) sz) := by
  refine Met.ofW (cc := cX9_turn) (maxL := 2) (ret := (some .int)) (by decide) rfl ?_
  intro p e s m args below meth c s₁ B hml hv
  obtain ⟨rfl, rfl, hP, hK, hN, hD0⟩ := hv
  have hx := B.exec
  have hb := B.bytes
  have hr := B.returns
  have hts := atoms_spec (ws := wsX9_turn) B.pre
  have hown : s.vm.findClass RX9 = some m.cls := findClass_of_methodNamed B.named
  have hlocks := B.notSynchronized
  have hw0 := hts (.fieldLink RX9 133 "ParquetLayer" "hand" "LParquetLayer$Laying;") (by decide +kernel)
  have hw1 := hts (.constant RX9 137 (-100006)) (by decide +kernel)
  have hw2 := hts (.constant RX9 43 (-100001)) (by decide +kernel)
  have hi9 := ihX9_turn_9
  have hD := hD0.self (sz := s.heap.size)
  generalize hAe : va_A (CW cy a (fun _ => 0) (fun _ => 0) (va_up (fun _ => none) 100 (some (a 4))) (fun _ _ => 0) RO) s.heap.size = A at hD ⊢
  have hA : ∀ q : Nat, s.heap.size ≤ q → A q := fun q h => by rw [← hAe]; exact Or.inr h
  have hS : va_S A s.heap s.heap [] := va_S.rf
  have hl := lv_entry ([.ref (a 0), .int x0]) (n := 2) (Nat.le_of_ble_eq_true rfl)
  rw [lg_entry_eq]
  generalize (lg_sl ([.ref (a 0), .int x0]) ++ List.replicate (2 - (lg_sl ([.ref (a 0), .int x0])).length) Slot.unset).toArray = ls at hl ⊢
  have hl : lv_has ls 2 [(0, .ref (a 0)), (1, .int x0)] := hl
  refine lv_iload_n hx hb dX9_turn_0 rfl (lv_at hl 1 rfl) ?_
  refine kS_i (As := [.int x0]) (rest := []) ⟨hx, hb, hml, hown, hts⟩ (c_X8_isCorner l x0) (va_cwS 1 hts gX9_turn_X8_isCorner rfl rfl rfl (by decide +kernel) ⟨Nat.le_of_ble_eq_true rfl, Nat.le_of_ble_eq_true rfl⟩) rfl hl.1 rfl (Nat.le_of_ble_eq_true rfl) dX9_turn_1 ⟨Nat.le_of_ble_eq_true rfl, Nat.le_of_ble_eq_true rfl⟩ ?_
  refine lv_if_ne (tgt := 14) hx hb dX9_turn_4 (by decide) (fun c_1 => ?_) (fun c_1 => ?_)
  · replace c_1 := bI_t c_1
    refine lv_aload_n hx hb dX9_turn_14 rfl (lv_at hl 0 rfl) ?_
    refine va_get (D := D) (ci := 8) (v := .null) (C := RX9) (T := TX9) (N := 11) hx hb hts hi9 hown hK hP 0 rfl rfl 8 (by decide) hw0 (fun _ h9 => h9) rfl dX9_turn_15 ?_
    refine lv_ifnonnullN hx hb dX9_turn_18 ?_
    refine lv_aload_n hx hb dX9_turn_21 rfl (lv_at hl 0 rfl) ?_
    refine lv_ldc (v := (-100006)) hx hb hown hw1 dX9_turn_22 ?_
    refine kM_i (As := [.int (-100006)]) (rest := []) (q0 := 0) ⟨hx, hb, hml, hown, hts⟩ (c_X9_finding l D cy a _ (fun _ => 0) (fun _ => 0) (va_up (fun _ => none) 100 (some (a 4))) (fun _ _ => 0) RO (-100006) ) (cwV 1 hts gX9_turn_X9_finding rfl rfl rfl (by decide +kernel) ⟨Nat.le_of_ble_eq_true rfl, Nat.le_of_ble_eq_true rfl⟩) hK hN hP hD hS hA rfl rfl rfl hl.1 rfl (Nat.le_of_ble_eq_true rfl) dX9_turn_24 ⟨Nat.le_of_ble_eq_true rfl, Nat.le_of_ble_eq_true rfl⟩ (fun r u H locs hw hP hD hS => ?_)
    obtain ⟨rfl, rfl⟩ := hw
    have hP : va_P D vwCl (CW cy a (fun _ => 0) (va_up (fun _ => 0) 10 (0 + 1)) (va_up (fun _ => none) 100 (some (a 4))) (fun _ _ => 0) RO) H := hP
    have hD : va_D A (CW cy a (fun _ => 0) (va_up (fun _ => 0) 10 (0 + 1)) (va_up (fun _ => none) 100 (some (a 4))) (fun _ _ => 0) RO) := hD
    exact qret_i hx hb hr hlocks (by simp [a_turn, ← corner_eq, c_1]) hS dX9_turn_27
  · replace c_1 := bI_f c_1
    refine lv_aload_n hx hb dX9_turn_7 rfl (lv_at hl 0 rfl) ?_
    refine lv_ldc (v := (-100001)) hx hb hown hw2 dX9_turn_8 ?_
    refine kM_i (As := [.int (-100001)]) (rest := []) (q0 := 0) ⟨hx, hb, hml, hown, hts⟩ (c_X9_finding l D cy a _ (fun _ => 0) (fun _ => 0) (va_up (fun _ => none) 100 (some (a 4))) (fun _ _ => 0) RO (-100001) ) (cwV 1 hts gX9_turn_X9_finding rfl rfl rfl (by decide +kernel) ⟨Nat.le_of_ble_eq_true rfl, Nat.le_of_ble_eq_true rfl⟩) hK hN hP hD hS hA rfl rfl rfl hl.1 rfl (Nat.le_of_ble_eq_true rfl) dX9_turn_10 ⟨Nat.le_of_ble_eq_true rfl, Nat.le_of_ble_eq_true rfl⟩ (fun r u H locs hw hP hD hS => ?_)
    obtain ⟨rfl, rfl⟩ := hw
    have hP : va_P D vwCl (CW cy a (fun _ => 0) (va_up (fun _ => 0) 10 (0 + 1)) (va_up (fun _ => none) 100 (some (a 4))) (fun _ _ => 0) RO) H := hP
    have hD : va_D A (CW cy a (fun _ => 0) (va_up (fun _ => 0) 10 (0 + 1)) (va_up (fun _ => none) 100 (some (a 4))) (fun _ _ => 0) RO) := hD
    exact qret_i hx hb hr hlocks (by simp [a_turn, ← corner_eq, c_1]) hS dX9_turn_13
theorem dX9_height_0 : decode cX9_height 0 = .ok (.aload_n 0, 1) := by decide +kernel
set_option maxRecDepth 20000 in
theorem ggX9_height_X9_isWhole : GoodIn wsX9_height wsX9_isWhole := goodIn_r _ [11, 3, 12, 13, 14, 10, 15, 16, 17, 18, 19, 20, 21, 22, 23, 24, 25, 26, 27, 28, 29, 30, 31, 32, 33, 34, 35, 36, 37, 38, 39, 40, 41, 42, 43, 44, 45, 46, 93, 94, 95, 96, 97, 98, 99, 100, 101, 102, 103, 109, 110, 111, 112, 113, 114, 115] (by decide +kernel) (by decide +kernel)
set_option maxRecDepth 20000 in
theorem gX9_height_X9_isWhole : GoodIn wsX9_height (wsV RX9 84 RX9 yX9_isWhole wsX9_isWhole) := goodIn_app (goodIn_of _ (by decide +kernel)) ggX9_height_X9_isWhole
theorem dX9_height_1 : decode cX9_height 1 = .ok (.invokevirtual 84, 3) := by decide +kernel
theorem dX9_height_4 : decode cX9_height 4 = .ok (.ifCond .ne 10, 3) := by decide +kernel
theorem dX9_height_7 : decode cX9_height 7 = .ok (.aload_n 0, 1) := by decide +kernel
theorem dX9_height_8 : decode cX9_height 8 = .ok (.ldc 128, 2) := by decide +kernel
set_option maxRecDepth 20000 in
theorem ggX9_height_X9_finding : GoodIn wsX9_height wsX9_finding := goodIn_r _ [50, 51, 93, 94, 95, 96, 97, 98, 99, 100, 101, 102, 103] (by decide +kernel) (by decide +kernel)
set_option maxRecDepth 20000 in
theorem gX9_height_X9_finding : GoodIn wsX9_height (wsV RX9 44 RX9 yX9_finding wsX9_finding) := goodIn_app (goodIn_of _ (by decide +kernel)) ggX9_height_X9_finding
theorem dX9_height_10 : decode cX9_height 10 = .ok (.invokevirtual 44, 3) := by decide +kernel
theorem dX9_height_13 : decode cX9_height 13 = .ok (.ireturn, 1) := by decide +kernel
set_option maxHeartbeats 4000000 in
set_option maxRecDepth 100000 in
theorem xp_X9_height (l : Launch) (D : va_G) (cy : Nat → ClassId) (a : Nat → Nat) (sz : Nat) (RO : Nat → Nat → Option Nat) (x0 : Int32) (x1 : Int32) : Met l yX9_height wsX9_height ({ frames := 4, cells := 0, slots := 0, locals := 88 }) (va_Pc [.ref (a 0), .int x0, .int x1] (PW D cy sz (CW cy a (fun _ => 0) (fun _ => 0) (va_up (fun _ => none) 100 (some (a 4))) (fun _ _ => 0) RO))) (va_Qi (fun r (_ : Unit) => r = (-100004)) (fun _ _ => True) (va_A (CW cy a (fun _ => 0) (fun _ => 0) (va_up (fun _ => none) 100 (some (a 4))) (fun _ _ => 0) RO) sz)) 0 0 (va_A (CW cy a (fun _ => 0) (fun _ => 0) (va_up (fun _ => none) 100 (some (a 4))) (fun _ _ => 0) RO) sz) := by
  refine Met.ofW (cc := cX9_height) (maxL := 3) (ret := (some .int)) (by decide) rfl ?_
  intro p e s m args below meth c s₁ B hml hv
  obtain ⟨rfl, rfl, hP, hK, hN, hD0⟩ := hv
  have hx := B.exec
  have hb := B.bytes
  have hr := B.returns
  have hts := atoms_spec (ws := wsX9_height) B.pre
  have hown : s.vm.findClass RX9 = some m.cls := findClass_of_methodNamed B.named
  have hlocks := B.notSynchronized
  have hw0 := hts (.constant RX9 128 (-100004)) (by decide +kernel)
  have hD := hD0.self (sz := s.heap.size)
  generalize hAe : va_A (CW cy a (fun _ => 0) (fun _ => 0) (va_up (fun _ => none) 100 (some (a 4))) (fun _ _ => 0) RO) s.heap.size = A at hD ⊢
  have hA : ∀ q : Nat, s.heap.size ≤ q → A q := fun q h => by rw [← hAe]; exact Or.inr h
  have hS : va_S A s.heap s.heap [] := va_S.rf
  have hl := lv_entry ([.ref (a 0), .int x0, .int x1]) (n := 3) (Nat.le_of_ble_eq_true rfl)
  rw [lg_entry_eq]
  generalize (lg_sl ([.ref (a 0), .int x0, .int x1]) ++ List.replicate (3 - (lg_sl ([.ref (a 0), .int x0, .int x1])).length) Slot.unset).toArray = ls at hl ⊢
  have hl : lv_has ls 3 [(0, .ref (a 0)), (1, .int x0), (2, .int x1)] := hl
  refine lv_aload_n hx hb dX9_height_0 rfl (lv_at hl 0 rfl) ?_
  refine kR_i (As := []) (rest := []) (q0 := 0) ⟨hx, hb, hml, hown, hts⟩ (c_X9_isWhole l D cy a _ RO  ) (cwV 0 hts gX9_height_X9_isWhole rfl rfl rfl (by decide +kernel) ⟨Nat.le_of_ble_eq_true rfl, Nat.le_of_ble_eq_true rfl⟩) hK hN hP hD rfl rfl rfl hl.1 rfl (Nat.le_of_ble_eq_true rfl) dX9_height_1 ⟨Nat.le_of_ble_eq_true rfl, Nat.le_of_ble_eq_true rfl⟩ ?_
  refine lv_if_ne (tgt := 14) hx hb dX9_height_4 (by decide) (fun c_1 => absurd (by decide) c_1) (fun c_1 => ?_)
  refine lv_aload_n hx hb dX9_height_7 rfl (lv_at hl 0 rfl) ?_
  refine lv_ldc (v := (-100004)) hx hb hown hw0 dX9_height_8 ?_
  refine kM_i (As := [.int (-100004)]) (rest := []) (q0 := 0) ⟨hx, hb, hml, hown, hts⟩ (c_X9_finding l D cy a _ (fun _ => 0) (fun _ => 0) (va_up (fun _ => none) 100 (some (a 4))) (fun _ _ => 0) RO (-100004) ) (cwV 1 hts gX9_height_X9_finding rfl rfl rfl (by decide +kernel) ⟨Nat.le_of_ble_eq_true rfl, Nat.le_of_ble_eq_true rfl⟩) hK hN hP hD hS hA rfl rfl rfl hl.1 rfl (Nat.le_of_ble_eq_true rfl) dX9_height_10 ⟨Nat.le_of_ble_eq_true rfl, Nat.le_of_ble_eq_true rfl⟩ (fun r u H locs hw hP hD hS => ?_)
  obtain ⟨rfl, rfl⟩ := hw
  have hP : va_P D vwCl (CW cy a (fun _ => 0) (va_up (fun _ => 0) 10 (0 + 1)) (va_up (fun _ => none) 100 (some (a 4))) (fun _ _ => 0) RO) H := hP
  have hD : va_D A (CW cy a (fun _ => 0) (va_up (fun _ => 0) 10 (0 + 1)) (va_up (fun _ => none) 100 (some (a 4))) (fun _ _ => 0) RO) := hD
  exact qret_i hx hb hr hlocks rfl hS dX9_height_13
theorem dX9_extreme_0 : decode cX9_extreme 0 = .ok (.aload_n 0, 1) := by decide +kernel
set_option maxRecDepth 20000 in
theorem ggX9_extreme_X9_isWhole : GoodIn wsX9_extreme wsX9_isWhole := goodIn_r _ [9, 10, 11, 12, 13, 8, 14, 15, 16, 17, 18, 19, 20, 21, 22, 23, 24, 25, 26, 27, 28, 29, 30, 31, 32, 33, 34, 35, 36, 37, 38, 39, 40, 41, 42, 43, 44, 45, 161, 162, 163, 164, 165, 166, 167, 168, 169, 170, 171, 174, 175, 176, 177, 178, 179, 180] (by decide +kernel) (by decide +kernel)
set_option maxRecDepth 20000 in
theorem gX9_extreme_X9_isWhole : GoodIn wsX9_extreme (wsV RX9 84 RX9 yX9_isWhole wsX9_isWhole) := goodIn_app (goodIn_of _ (by decide +kernel)) ggX9_extreme_X9_isWhole
theorem dX9_extreme_1 : decode cX9_extreme 1 = .ok (.invokevirtual 84, 3) := by decide +kernel
theorem dX9_extreme_4 : decode cX9_extreme 4 = .ok (.ifCond .ne 10, 3) := by decide +kernel
theorem dX9_extreme_7 : decode cX9_extreme 7 = .ok (.aload_n 0, 1) := by decide +kernel
theorem dX9_extreme_8 : decode cX9_extreme 8 = .ok (.ldc 128, 2) := by decide +kernel
set_option maxRecDepth 20000 in
theorem ggX9_extreme_X9_finding : GoodIn wsX9_extreme wsX9_finding := goodIn_r _ [49, 50, 161, 162, 163, 164, 165, 166, 167, 168, 169, 170, 171] (by decide +kernel) (by decide +kernel)
set_option maxRecDepth 20000 in
theorem gX9_extreme_X9_finding : GoodIn wsX9_extreme (wsV RX9 44 RX9 yX9_finding wsX9_finding) := goodIn_app (goodIn_of _ (by decide +kernel)) ggX9_extreme_X9_finding
theorem dX9_extreme_10 : decode cX9_extreme 10 = .ok (.invokevirtual 44, 3) := by decide +kernel
theorem dX9_extreme_13 : decode cX9_extreme 13 = .ok (.ireturn, 1) := by decide +kernel
set_option maxHeartbeats 4000000 in
set_option maxRecDepth 100000 in
theorem xp_X9_extreme (l : Launch) (D : va_G) (cy : Nat → ClassId) (a : Nat → Nat) (sz : Nat) (RO : Nat → Nat → Option Nat) (x0 : Bool) : Met l yX9_extreme wsX9_extreme ({ frames := 4, cells := 0, slots := 0, locals := 88 }) (va_Pc [.ref (a 0), .int (bI x0)] (PW D cy sz (CW cy a (fun _ => 0) (fun _ => 0) (va_up (fun _ => none) 100 (some (a 4))) (fun _ _ => 0) RO))) (va_Qi (fun r (_ : Unit) => r = (-100004)) (fun _ _ => True) (va_A (CW cy a (fun _ => 0) (fun _ => 0) (va_up (fun _ => none) 100 (some (a 4))) (fun _ _ => 0) RO) sz)) 0 0 (va_A (CW cy a (fun _ => 0) (fun _ => 0) (va_up (fun _ => none) 100 (some (a 4))) (fun _ _ => 0) RO) sz) := by
  refine Met.ofW (cc := cX9_extreme) (maxL := 2) (ret := (some .int)) (by decide) rfl ?_
  intro p e s m args below meth c s₁ B hml hv
  obtain ⟨rfl, rfl, hP, hK, hN, hD0⟩ := hv
  have hx := B.exec
  have hb := B.bytes
  have hr := B.returns
  have hts := atoms_spec (ws := wsX9_extreme) B.pre
  have hown : s.vm.findClass RX9 = some m.cls := findClass_of_methodNamed B.named
  have hlocks := B.notSynchronized
  have hw0 := hts (.constant RX9 128 (-100004)) (by decide +kernel)
  have hD := hD0.self (sz := s.heap.size)
  generalize hAe : va_A (CW cy a (fun _ => 0) (fun _ => 0) (va_up (fun _ => none) 100 (some (a 4))) (fun _ _ => 0) RO) s.heap.size = A at hD ⊢
  have hA : ∀ q : Nat, s.heap.size ≤ q → A q := fun q h => by rw [← hAe]; exact Or.inr h
  have hS : va_S A s.heap s.heap [] := va_S.rf
  have hl := lv_entry ([.ref (a 0), .int (bI x0)]) (n := 2) (Nat.le_of_ble_eq_true rfl)
  rw [lg_entry_eq]
  generalize (lg_sl ([.ref (a 0), .int (bI x0)]) ++ List.replicate (2 - (lg_sl ([.ref (a 0), .int (bI x0)])).length) Slot.unset).toArray = ls at hl ⊢
  have hl : lv_has ls 2 [(0, .ref (a 0)), (1, .int (bI x0))] := hl
  refine lv_aload_n hx hb dX9_extreme_0 rfl (lv_at hl 0 rfl) ?_
  refine kR_i (As := []) (rest := []) (q0 := 0) ⟨hx, hb, hml, hown, hts⟩ (c_X9_isWhole l D cy a _ RO  ) (cwV 0 hts gX9_extreme_X9_isWhole rfl rfl rfl (by decide +kernel) ⟨Nat.le_of_ble_eq_true rfl, Nat.le_of_ble_eq_true rfl⟩) hK hN hP hD rfl rfl rfl hl.1 rfl (Nat.le_of_ble_eq_true rfl) dX9_extreme_1 ⟨Nat.le_of_ble_eq_true rfl, Nat.le_of_ble_eq_true rfl⟩ ?_
  refine lv_if_ne (tgt := 14) hx hb dX9_extreme_4 (by decide) (fun c_1 => absurd (by decide) c_1) (fun c_1 => ?_)
  refine lv_aload_n hx hb dX9_extreme_7 rfl (lv_at hl 0 rfl) ?_
  refine lv_ldc (v := (-100004)) hx hb hown hw0 dX9_extreme_8 ?_
  refine kM_i (As := [.int (-100004)]) (rest := []) (q0 := 0) ⟨hx, hb, hml, hown, hts⟩ (c_X9_finding l D cy a _ (fun _ => 0) (fun _ => 0) (va_up (fun _ => none) 100 (some (a 4))) (fun _ _ => 0) RO (-100004) ) (cwV 1 hts gX9_extreme_X9_finding rfl rfl rfl (by decide +kernel) ⟨Nat.le_of_ble_eq_true rfl, Nat.le_of_ble_eq_true rfl⟩) hK hN hP hD hS hA rfl rfl rfl hl.1 rfl (Nat.le_of_ble_eq_true rfl) dX9_extreme_10 ⟨Nat.le_of_ble_eq_true rfl, Nat.le_of_ble_eq_true rfl⟩ (fun r u H locs hw hP hD hS => ?_)
  obtain ⟨rfl, rfl⟩ := hw
  have hP : va_P D vwCl (CW cy a (fun _ => 0) (va_up (fun _ => 0) 10 (0 + 1)) (va_up (fun _ => none) 100 (some (a 4))) (fun _ _ => 0) RO) H := hP
  have hD : va_D A (CW cy a (fun _ => 0) (va_up (fun _ => 0) 10 (0 + 1)) (va_up (fun _ => none) 100 (some (a 4))) (fun _ _ => 0) RO) := hD
  exact qret_i hx hb hr hlocks rfl hS dX9_extreme_13
theorem dX9_apart_0 : decode cX9_apart 0 = .ok (.aload_n 0, 1) := by decide +kernel
set_option maxRecDepth 20000 in
theorem ggX9_apart_X9_isWhole : GoodIn wsX9_apart wsX9_isWhole := goodIn_r _ [8, 9, 10, 11, 12, 7, 13, 14, 15, 16, 17, 18, 19, 20, 21, 22, 23, 24, 25, 26, 27, 28, 29, 30, 31, 32, 33, 34, 35, 36, 37, 38, 39, 40, 41, 42, 43, 44, 182, 183, 184, 185, 186, 187, 188, 189, 190, 191, 192, 193, 194, 195, 196, 197, 198, 199] (by decide +kernel) (by decide +kernel)
set_option maxRecDepth 20000 in
theorem gX9_apart_X9_isWhole : GoodIn wsX9_apart (wsV RX9 84 RX9 yX9_isWhole wsX9_isWhole) := goodIn_app (goodIn_of _ (by decide +kernel)) ggX9_apart_X9_isWhole
theorem dX9_apart_1 : decode cX9_apart 1 = .ok (.invokevirtual 84, 3) := by decide +kernel
theorem dX9_apart_4 : decode cX9_apart 4 = .ok (.ifCond .ne 10, 3) := by decide +kernel
theorem dX9_apart_7 : decode cX9_apart 7 = .ok (.aload_n 0, 1) := by decide +kernel
theorem dX9_apart_8 : decode cX9_apart 8 = .ok (.ldc 128, 2) := by decide +kernel
set_option maxRecDepth 20000 in
theorem ggX9_apart_X9_finding : GoodIn wsX9_apart wsX9_finding := goodIn_r _ [48, 49, 182, 183, 184, 185, 186, 187, 188, 189, 190, 191, 192] (by decide +kernel) (by decide +kernel)
set_option maxRecDepth 20000 in
theorem gX9_apart_X9_finding : GoodIn wsX9_apart (wsV RX9 44 RX9 yX9_finding wsX9_finding) := goodIn_app (goodIn_of _ (by decide +kernel)) ggX9_apart_X9_finding
theorem dX9_apart_10 : decode cX9_apart 10 = .ok (.invokevirtual 44, 3) := by decide +kernel
theorem dX9_apart_13 : decode cX9_apart 13 = .ok (.ireturn, 1) := by decide +kernel
set_option maxHeartbeats 4000000 in
set_option maxRecDepth 100000 in
theorem xp_X9_apart (l : Launch) (D : va_G) (cy : Nat → ClassId) (a : Nat → Nat) (sz : Nat) (RO : Nat → Nat → Option Nat) (x0 : Int32) (x1 : Int32) : Met l yX9_apart wsX9_apart ({ frames := 4, cells := 0, slots := 0, locals := 88 }) (va_Pc [.ref (a 0), .int x0, .int x1] (PW D cy sz (CW cy a (fun _ => 0) (fun _ => 0) (va_up (fun _ => none) 100 (some (a 4))) (fun _ _ => 0) RO))) (va_Qi (fun r (_ : Unit) => r = (-100004)) (fun _ _ => True) (va_A (CW cy a (fun _ => 0) (fun _ => 0) (va_up (fun _ => none) 100 (some (a 4))) (fun _ _ => 0) RO) sz)) 0 0 (va_A (CW cy a (fun _ => 0) (fun _ => 0) (va_up (fun _ => none) 100 (some (a 4))) (fun _ _ => 0) RO) sz) := by
  refine Met.ofW (cc := cX9_apart) (maxL := 3) (ret := (some .int)) (by decide) rfl ?_
  intro p e s m args below meth c s₁ B hml hv
  obtain ⟨rfl, rfl, hP, hK, hN, hD0⟩ := hv
  have hx := B.exec
  have hb := B.bytes
  have hr := B.returns
  have hts := atoms_spec (ws := wsX9_apart) B.pre
  have hown : s.vm.findClass RX9 = some m.cls := findClass_of_methodNamed B.named
  have hlocks := B.notSynchronized
  have hw0 := hts (.constant RX9 128 (-100004)) (by decide +kernel)
  have hD := hD0.self (sz := s.heap.size)
  generalize hAe : va_A (CW cy a (fun _ => 0) (fun _ => 0) (va_up (fun _ => none) 100 (some (a 4))) (fun _ _ => 0) RO) s.heap.size = A at hD ⊢
  have hA : ∀ q : Nat, s.heap.size ≤ q → A q := fun q h => by rw [← hAe]; exact Or.inr h
  have hS : va_S A s.heap s.heap [] := va_S.rf
  have hl := lv_entry ([.ref (a 0), .int x0, .int x1]) (n := 3) (Nat.le_of_ble_eq_true rfl)
  rw [lg_entry_eq]
  generalize (lg_sl ([.ref (a 0), .int x0, .int x1]) ++ List.replicate (3 - (lg_sl ([.ref (a 0), .int x0, .int x1])).length) Slot.unset).toArray = ls at hl ⊢
  have hl : lv_has ls 3 [(0, .ref (a 0)), (1, .int x0), (2, .int x1)] := hl
  refine lv_aload_n hx hb dX9_apart_0 rfl (lv_at hl 0 rfl) ?_
  refine kR_i (As := []) (rest := []) (q0 := 0) ⟨hx, hb, hml, hown, hts⟩ (c_X9_isWhole l D cy a _ RO  ) (cwV 0 hts gX9_apart_X9_isWhole rfl rfl rfl (by decide +kernel) ⟨Nat.le_of_ble_eq_true rfl, Nat.le_of_ble_eq_true rfl⟩) hK hN hP hD rfl rfl rfl hl.1 rfl (Nat.le_of_ble_eq_true rfl) dX9_apart_1 ⟨Nat.le_of_ble_eq_true rfl, Nat.le_of_ble_eq_true rfl⟩ ?_
  refine lv_if_ne (tgt := 14) hx hb dX9_apart_4 (by decide) (fun c_1 => absurd (by decide) c_1) (fun c_1 => ?_)
  refine lv_aload_n hx hb dX9_apart_7 rfl (lv_at hl 0 rfl) ?_
  refine lv_ldc (v := (-100004)) hx hb hown hw0 dX9_apart_8 ?_
  refine kM_i (As := [.int (-100004)]) (rest := []) (q0 := 0) ⟨hx, hb, hml, hown, hts⟩ (c_X9_finding l D cy a _ (fun _ => 0) (fun _ => 0) (va_up (fun _ => none) 100 (some (a 4))) (fun _ _ => 0) RO (-100004) ) (cwV 1 hts gX9_apart_X9_finding rfl rfl rfl (by decide +kernel) ⟨Nat.le_of_ble_eq_true rfl, Nat.le_of_ble_eq_true rfl⟩) hK hN hP hD hS hA rfl rfl rfl hl.1 rfl (Nat.le_of_ble_eq_true rfl) dX9_apart_10 ⟨Nat.le_of_ble_eq_true rfl, Nat.le_of_ble_eq_true rfl⟩ (fun r u H locs hw hP hD hS => ?_)
  obtain ⟨rfl, rfl⟩ := hw
  have hP : va_P D vwCl (CW cy a (fun _ => 0) (va_up (fun _ => 0) 10 (0 + 1)) (va_up (fun _ => none) 100 (some (a 4))) (fun _ _ => 0) RO) H := hP
  have hD : va_D A (CW cy a (fun _ => 0) (va_up (fun _ => 0) 10 (0 + 1)) (va_up (fun _ => none) 100 (some (a 4))) (fun _ _ => 0) RO) := hD
  exact qret_i hx hb hr hlocks rfl hS dX9_apart_13
theorem dX9_step_0 : decode cX9_step 0 = .ok (.aload_n 0, 1) := by decide +kernel
set_option maxRecDepth 20000 in
theorem ggX9_step_X9_isWhole : GoodIn wsX9_step wsX9_isWhole := goodIn_r _ [12, 13, 14, 15, 16, 11, 17, 18, 19, 20, 21, 22, 23, 24, 25, 26, 27, 28, 29, 30, 31, 32, 33, 34, 35, 36, 37, 38, 39, 40, 41, 42, 43, 44, 45, 46, 47, 48, 222, 223, 224, 225, 226, 227, 228, 229, 230, 231, 232, 238, 239, 240, 241, 242, 243, 244] (by decide +kernel) (by decide +kernel)
set_option maxRecDepth 20000 in
theorem gX9_step_X9_isWhole : GoodIn wsX9_step (wsV RX9 84 RX9 yX9_isWhole wsX9_isWhole) := goodIn_app (goodIn_of _ (by decide +kernel)) ggX9_step_X9_isWhole
theorem dX9_step_1 : decode cX9_step 1 = .ok (.invokevirtual 84, 3) := by decide +kernel
theorem dX9_step_4 : decode cX9_step 4 = .ok (.ifCond .ne 10, 3) := by decide +kernel
theorem dX9_step_7 : decode cX9_step 7 = .ok (.aload_n 0, 1) := by decide +kernel
theorem dX9_step_8 : decode cX9_step 8 = .ok (.ldc 128, 2) := by decide +kernel
set_option maxRecDepth 20000 in
theorem ggX9_step_X9_finding : GoodIn wsX9_step wsX9_finding := goodIn_r _ [52, 53, 222, 223, 224, 225, 226, 227, 228, 229, 230, 231, 232] (by decide +kernel) (by decide +kernel)
set_option maxRecDepth 20000 in
theorem gX9_step_X9_finding : GoodIn wsX9_step (wsV RX9 44 RX9 yX9_finding wsX9_finding) := goodIn_app (goodIn_of _ (by decide +kernel)) ggX9_step_X9_finding
theorem dX9_step_10 : decode cX9_step 10 = .ok (.invokevirtual 44, 3) := by decide +kernel
theorem dX9_step_13 : decode cX9_step 13 = .ok (.ireturn, 1) := by decide +kernel
set_option maxHeartbeats 4000000 in
set_option maxRecDepth 100000 in
theorem xp_X9_step (l : Launch) (D : va_G) (cy : Nat → ClassId) (a : Nat → Nat) (sz : Nat) (RO : Nat → Nat → Option Nat) (x0 : Int32) (x1 : Int32) (x2 : Int32) : Met l yX9_step wsX9_step ({ frames := 4, cells := 0, slots := 0, locals := 88 }) (va_Pc [.ref (a 0), .int x0, .int x1, .int x2] (PW D cy sz (CW cy a (fun _ => 0) (fun _ => 0) (va_up (fun _ => none) 100 (some (a 4))) (fun _ _ => 0) RO))) (va_Qi (fun r (_ : Unit) => r = (-100004)) (fun _ _ => True) (va_A (CW cy a (fun _ => 0) (fun _ => 0) (va_up (fun _ => none) 100 (some (a 4))) (fun _ _ => 0) RO) sz)) 0 0 (va_A (CW cy a (fun _ => 0) (fun _ => 0) (va_up (fun _ => none) 100 (some (a 4))) (fun _ _ => 0) RO) sz) := by
  refine Met.ofW (cc := cX9_step) (maxL := 7) (ret := (some .int)) (by decide) rfl ?_
  intro p e s m args below meth c s₁ B hml hv
  obtain ⟨rfl, rfl, hP, hK, hN, hD0⟩ := hv
  have hx := B.exec
  have hb := B.bytes
  have hr := B.returns
  have hts := atoms_spec (ws := wsX9_step) B.pre
  have hown : s.vm.findClass RX9 = some m.cls := findClass_of_methodNamed B.named
  have hlocks := B.notSynchronized
  have hw0 := hts (.constant RX9 128 (-100004)) (by decide +kernel)
  have hD := hD0.self (sz := s.heap.size)
  generalize hAe : va_A (CW cy a (fun _ => 0) (fun _ => 0) (va_up (fun _ => none) 100 (some (a 4))) (fun _ _ => 0) RO) s.heap.size = A at hD ⊢
  have hA : ∀ q : Nat, s.heap.size ≤ q → A q := fun q h => by rw [← hAe]; exact Or.inr h
  have hS : va_S A s.heap s.heap [] := va_S.rf
  have hl := lv_entry ([.ref (a 0), .int x0, .int x1, .int x2]) (n := 7) (Nat.le_of_ble_eq_true rfl)
  rw [lg_entry_eq]
  generalize (lg_sl ([.ref (a 0), .int x0, .int x1, .int x2]) ++ List.replicate (7 - (lg_sl ([.ref (a 0), .int x0, .int x1, .int x2])).length) Slot.unset).toArray = ls at hl ⊢
  have hl : lv_has ls 7 [(0, .ref (a 0)), (1, .int x0), (2, .int x1), (3, .int x2)] := hl
  refine lv_aload_n hx hb dX9_step_0 rfl (lv_at hl 0 rfl) ?_
  refine kR_i (As := []) (rest := []) (q0 := 0) ⟨hx, hb, hml, hown, hts⟩ (c_X9_isWhole l D cy a _ RO  ) (cwV 0 hts gX9_step_X9_isWhole rfl rfl rfl (by decide +kernel) ⟨Nat.le_of_ble_eq_true rfl, Nat.le_of_ble_eq_true rfl⟩) hK hN hP hD rfl rfl rfl hl.1 rfl (Nat.le_of_ble_eq_true rfl) dX9_step_1 ⟨Nat.le_of_ble_eq_true rfl, Nat.le_of_ble_eq_true rfl⟩ ?_
  refine lv_if_ne (tgt := 14) hx hb dX9_step_4 (by decide) (fun c_1 => absurd (by decide) c_1) (fun c_1 => ?_)
  refine lv_aload_n hx hb dX9_step_7 rfl (lv_at hl 0 rfl) ?_
  refine lv_ldc (v := (-100004)) hx hb hown hw0 dX9_step_8 ?_
  refine kM_i (As := [.int (-100004)]) (rest := []) (q0 := 0) ⟨hx, hb, hml, hown, hts⟩ (c_X9_finding l D cy a _ (fun _ => 0) (fun _ => 0) (va_up (fun _ => none) 100 (some (a 4))) (fun _ _ => 0) RO (-100004) ) (cwV 1 hts gX9_step_X9_finding rfl rfl rfl (by decide +kernel) ⟨Nat.le_of_ble_eq_true rfl, Nat.le_of_ble_eq_true rfl⟩) hK hN hP hD hS hA rfl rfl rfl hl.1 rfl (Nat.le_of_ble_eq_true rfl) dX9_step_10 ⟨Nat.le_of_ble_eq_true rfl, Nat.le_of_ble_eq_true rfl⟩ (fun r u H locs hw hP hD hS => ?_)
  obtain ⟨rfl, rfl⟩ := hw
  have hP : va_P D vwCl (CW cy a (fun _ => 0) (va_up (fun _ => 0) 10 (0 + 1)) (va_up (fun _ => none) 100 (some (a 4))) (fun _ _ => 0) RO) H := hP
  have hD : va_D A (CW cy a (fun _ => 0) (va_up (fun _ => 0) 10 (0 + 1)) (va_up (fun _ => none) 100 (some (a 4))) (fun _ _ => 0) RO) := hD
  exact qret_i hx hb hr hlocks rfl hS dX9_step_13
theorem dX9_meet_0 : decode cX9_meet 0 = .ok (.aload_n 0, 1) := by decide +kernel
set_option maxRecDepth 20000 in
theorem ggX9_meet_X9_isWhole : GoodIn wsX9_meet wsX9_isWhole := goodIn_r _ [9, 4, 10, 11, 12, 8, 13, 14, 15, 16, 17, 18, 19, 20, 21, 22, 23, 24, 25, 26, 27, 28, 29, 30, 31, 32, 33, 34, 35, 36, 37, 38, 39, 40, 41, 42, 43, 44, 196, 197, 198, 199, 200, 201, 202, 203, 204, 205, 206, 207, 208, 209, 210, 211, 212, 213] (by decide +kernel) (by decide +kernel)
set_option maxRecDepth 20000 in
theorem gX9_meet_X9_isWhole : GoodIn wsX9_meet (wsV RX9 84 RX9 yX9_isWhole wsX9_isWhole) := goodIn_app (goodIn_of _ (by decide +kernel)) ggX9_meet_X9_isWhole
theorem dX9_meet_1 : decode cX9_meet 1 = .ok (.invokevirtual 84, 3) := by decide +kernel
theorem dX9_meet_4 : decode cX9_meet 4 = .ok (.ifCond .ne 10, 3) := by decide +kernel
theorem dX9_meet_7 : decode cX9_meet 7 = .ok (.aload_n 0, 1) := by decide +kernel
theorem dX9_meet_8 : decode cX9_meet 8 = .ok (.ldc 128, 2) := by decide +kernel
set_option maxRecDepth 20000 in
theorem ggX9_meet_X9_finding : GoodIn wsX9_meet wsX9_finding := goodIn_r _ [48, 49, 196, 197, 198, 199, 200, 201, 202, 203, 204, 205, 206] (by decide +kernel) (by decide +kernel)
set_option maxRecDepth 20000 in
theorem gX9_meet_X9_finding : GoodIn wsX9_meet (wsV RX9 44 RX9 yX9_finding wsX9_finding) := goodIn_app (goodIn_of _ (by decide +kernel)) ggX9_meet_X9_finding
theorem dX9_meet_10 : decode cX9_meet 10 = .ok (.invokevirtual 44, 3) := by decide +kernel
theorem dX9_meet_13 : decode cX9_meet 13 = .ok (.ireturn, 1) := by decide +kernel
set_option maxHeartbeats 4000000 in
set_option maxRecDepth 100000 in
theorem xp_X9_meet (l : Launch) (D : va_G) (cy : Nat → ClassId) (a : Nat → Nat) (sz : Nat) (RO : Nat → Nat → Option Nat) (x0 : Int32) (x1 : Int32) (x2 : Bool) : Met l yX9_meet wsX9_meet ({ frames := 4, cells := 0, slots := 0, locals := 88 }) (va_Pc [.ref (a 0), .int x0, .int x1, .int (bI x2)] (PW D cy sz (CW cy a (fun _ => 0) (fun _ => 0) (va_up (fun _ => none) 100 (some (a 4))) (fun _ _ => 0) RO))) (va_Qi (fun r (_ : Unit) => r = (-100004)) (fun _ _ => True) (va_A (CW cy a (fun _ => 0) (fun _ => 0) (va_up (fun _ => none) 100 (some (a 4))) (fun _ _ => 0) RO) sz)) 0 0 (va_A (CW cy a (fun _ => 0) (fun _ => 0) (va_up (fun _ => none) 100 (some (a 4))) (fun _ _ => 0) RO) sz) := by
  refine Met.ofW (cc := cX9_meet) (maxL := 4) (ret := (some .int)) (by decide) rfl ?_
  intro p e s m args below meth c s₁ B hml hv
  obtain ⟨rfl, rfl, hP, hK, hN, hD0⟩ := hv
  have hx := B.exec
  have hb := B.bytes
  have hr := B.returns
  have hts := atoms_spec (ws := wsX9_meet) B.pre
  have hown : s.vm.findClass RX9 = some m.cls := findClass_of_methodNamed B.named
  have hlocks := B.notSynchronized
  have hw0 := hts (.constant RX9 128 (-100004)) (by decide +kernel)
  have hD := hD0.self (sz := s.heap.size)
  generalize hAe : va_A (CW cy a (fun _ => 0) (fun _ => 0) (va_up (fun _ => none) 100 (some (a 4))) (fun _ _ => 0) RO) s.heap.size = A at hD ⊢
  have hA : ∀ q : Nat, s.heap.size ≤ q → A q := fun q h => by rw [← hAe]; exact Or.inr h
  have hS : va_S A s.heap s.heap [] := va_S.rf
  have hl := lv_entry ([.ref (a 0), .int x0, .int x1, .int (bI x2)]) (n := 4) (Nat.le_of_ble_eq_true rfl)
  rw [lg_entry_eq]
  generalize (lg_sl ([.ref (a 0), .int x0, .int x1, .int (bI x2)]) ++ List.replicate (4 - (lg_sl ([.ref (a 0), .int x0, .int x1, .int (bI x2)])).length) Slot.unset).toArray = ls at hl ⊢
  have hl : lv_has ls 4 [(0, .ref (a 0)), (1, .int x0), (2, .int x1), (3, .int (bI x2))] := hl
  refine lv_aload_n hx hb dX9_meet_0 rfl (lv_at hl 0 rfl) ?_
  refine kR_i (As := []) (rest := []) (q0 := 0) ⟨hx, hb, hml, hown, hts⟩ (c_X9_isWhole l D cy a _ RO  ) (cwV 0 hts gX9_meet_X9_isWhole rfl rfl rfl (by decide +kernel) ⟨Nat.le_of_ble_eq_true rfl, Nat.le_of_ble_eq_true rfl⟩) hK hN hP hD rfl rfl rfl hl.1 rfl (Nat.le_of_ble_eq_true rfl) dX9_meet_1 ⟨Nat.le_of_ble_eq_true rfl, Nat.le_of_ble_eq_true rfl⟩ ?_
  refine lv_if_ne (tgt := 14) hx hb dX9_meet_4 (by decide) (fun c_1 => absurd (by decide) c_1) (fun c_1 => ?_)
  refine lv_aload_n hx hb dX9_meet_7 rfl (lv_at hl 0 rfl) ?_
  refine lv_ldc (v := (-100004)) hx hb hown hw0 dX9_meet_8 ?_
  refine kM_i (As := [.int (-100004)]) (rest := []) (q0 := 0) ⟨hx, hb, hml, hown, hts⟩ (c_X9_finding l D cy a _ (fun _ => 0) (fun _ => 0) (va_up (fun _ => none) 100 (some (a 4))) (fun _ _ => 0) RO (-100004) ) (cwV 1 hts gX9_meet_X9_finding rfl rfl rfl (by decide +kernel) ⟨Nat.le_of_ble_eq_true rfl, Nat.le_of_ble_eq_true rfl⟩) hK hN hP hD hS hA rfl rfl rfl hl.1 rfl (Nat.le_of_ble_eq_true rfl) dX9_meet_10 ⟨Nat.le_of_ble_eq_true rfl, Nat.le_of_ble_eq_true rfl⟩ (fun r u H locs hw hP hD hS => ?_)
  obtain ⟨rfl, rfl⟩ := hw
  have hP : va_P D vwCl (CW cy a (fun _ => 0) (va_up (fun _ => 0) 10 (0 + 1)) (va_up (fun _ => none) 100 (some (a 4))) (fun _ _ => 0) RO) H := hP
  have hD : va_D A (CW cy a (fun _ => 0) (va_up (fun _ => 0) 10 (0 + 1)) (va_up (fun _ => none) 100 (some (a 4))) (fun _ _ => 0) RO) := hD
  exact qret_i hx hb hr hlocks rfl hS dX9_meet_13
theorem dX9_lack_0 : decode cX9_lack 0 = .ok (.aload_n 0, 1) := by decide +kernel
theorem dX9_lack_1 : decode cX9_lack 1 = .ok (.getfield 38, 3) := by decide +kernel
theorem dX9_lack_4 : decode cX9_lack 4 = .ok (.aload_n 0, 1) := by decide +kernel
theorem dX9_lack_5 : decode cX9_lack 5 = .ok (.getfield 48, 3) := by decide +kernel
set_option maxRecDepth 20000 in
theorem ggX9_lack_X0_cover : GoodIn wsX9_lack wsX0_cover := goodIn_r _ [8, 9, 10, 11, 12, 13, 14, 15, 16, 7, 17, 18, 19, 20, 21, 22, 23, 24, 25, 26, 27, 28, 29, 30, 31, 32, 33, 34, 35, 36, 37, 38, 39, 40, 41, 42, 43, 44, 45, 46, 47, 48, 49, 50, 51, 52, 53, 72, 73, 74, 75, 76, 77, 78] (by decide +kernel) (by decide +kernel)
set_option maxRecDepth 20000 in
theorem gX9_lack_X0_cover : GoodIn wsX9_lack (wsV RX9 270 RX0 yX0_cover wsX0_cover) := goodIn_app (goodIn_of _ (by decide +kernel)) ggX9_lack_X0_cover
theorem dX9_lack_8 : decode cX9_lack 8 = .ok (.invokevirtual 270, 3) := by decide +kernel
theorem dX9_lack_11 : decode cX9_lack 11 = .ok (.aload_n 0, 1) := by decide +kernel
theorem dX9_lack_12 : decode cX9_lack 12 = .ok (.getfield 38, 3) := by decide +kernel
theorem dX9_lack_15 : decode cX9_lack 15 = .ok (.getfield 273, 3) := by decide +kernel
set_option maxRecDepth 20000 in
theorem ggX9_lack_J13_bitCount_95d88 : GoodIn wsX9_lack wsJ13_bitCount_95d88 := goodIn_r _ [57, 58, 59, 60] (by decide +kernel) (by decide +kernel)
set_option maxRecDepth 20000 in
theorem gX9_lack_J13_bitCount_95d88 : GoodIn wsX9_lack (va_wsS RX9 74 yJ13_bitCount_95d88 wsJ13_bitCount_95d88) := goodIn_app (goodIn_of _ (by decide +kernel)) ggX9_lack_J13_bitCount_95d88
theorem dX9_lack_18 : decode cX9_lack 18 = .ok (.invokestatic 74, 3) := by decide +kernel
theorem dX9_lack_21 : decode cX9_lack 21 = .ok (.ireturn, 1) := by decide +kernel
set_option maxRecDepth 20000 in
theorem ihX9_lack_0 : ∀ w ∈ u_ws RX0 TX0 7, w ∈ wsX9_lack := by decide +kernel
set_option maxRecDepth 20000 in
theorem ihX9_lack_9 : ∀ w ∈ u_ws RX9 TX9 11, w ∈ wsX9_lack := by decide +kernel
set_option maxHeartbeats 4000000 in
set_option maxRecDepth 100000 in
theorem xp_X9_lack (l : Launch) (D : va_G) (cy : Nat → ClassId) (a : Nat → Nat) (sz : Nat) (RO : Nat → Nat → Option Nat)  : Met l yX9_lack wsX9_lack ({ frames := 4, cells := 0, slots := 0, locals := 97 }) (va_Pc [.ref (a 0)] (PW D cy sz (CW cy a (fun _ => 0) (fun _ => 0) (va_up (fun _ => none) 100 (some (a 4))) (fun _ _ => 0) RO))) (va_Qi (fun r (_ : Unit) => r = 0) (fun _ _ => True) (va_A (CW cy a (fun _ => 0) (fun _ => 0) (va_up (fun _ => none) 100 (some (a 4))) (fun _ _ => 0) RO) sz)) 0 0 (va_A (CW cy a (fun _ => 0) (fun _ => 0) (va_up (fun _ => none) 100 (some (a 4))) (fun _ _ => 0) RO) sz) := by
  refine Met.ofW (cc := cX9_lack) (maxL := 1) (ret := (some .int)) (by decide) rfl ?_
  intro p e s m args below meth c s₁ B hml hv
  obtain ⟨rfl, rfl, hP, hK, hN, hD0⟩ := hv
  have hx := B.exec
  have hb := B.bytes
  have hr := B.returns
  have hts := atoms_spec (ws := wsX9_lack) B.pre
  have hown : s.vm.findClass RX9 = some m.cls := findClass_of_methodNamed B.named
  have hlocks := B.notSynchronized
  have hw0 := hts (.fieldLink RX9 38 "ParquetLayer" "covering" "LParquetLayer$Covering;") (by decide +kernel)
  have hw1 := hts (.fieldLink RX9 48 "ParquetLayer" "fields" "J") (by decide +kernel)
  have hw2 := hts (.fieldLink RX9 273 "ParquetLayer$Covering" "left" "J") (by decide +kernel)
  have hi0 := ihX9_lack_0
  have hi9 := ihX9_lack_9
  have hD := hD0.self (sz := s.heap.size)
  generalize hAe : va_A (CW cy a (fun _ => 0) (fun _ => 0) (va_up (fun _ => none) 100 (some (a 4))) (fun _ _ => 0) RO) s.heap.size = A at hD ⊢
  have hA : ∀ q : Nat, s.heap.size ≤ q → A q := fun q h => by rw [← hAe]; exact Or.inr h
  have hS : va_S A s.heap s.heap [] := va_S.rf
  have hl := lv_entry ([.ref (a 0)]) (n := 1) (Nat.le_of_ble_eq_true rfl)
  rw [lg_entry_eq]
  generalize (lg_sl ([.ref (a 0)]) ++ List.replicate (1 - (lg_sl ([.ref (a 0)])).length) Slot.unset).toArray = ls at hl ⊢
  have hl : lv_has ls 1 [(0, .ref (a 0))] := hl
  refine lv_aload_n hx hb dX9_lack_0 rfl (lv_at hl 0 rfl) ?_
  refine va_get (D := D) (ci := 8) (v := .ref (a 8)) (C := RX9) (T := TX9) (N := 11) hx hb hts hi9 hown hK hP 0 rfl rfl 4 (by decide) hw0 (fun _ h9 => h9) rfl dX9_lack_1 ?_
  refine lv_aload_n hx hb dX9_lack_4 rfl (lv_at hl 0 rfl) ?_
  refine va_get (D := D) (ci := 8) (v := .long 0) (C := RX9) (T := TX9) (N := 11) hx hb hts hi9 hown hK hP 0 rfl rfl 6 (by decide) hw1 (fun _ h9 => h9) rfl dX9_lack_5 ?_
  refine kM_v (As := [.long 0]) (rest := []) (q0 := 8) ⟨hx, hb, hml, hown, hts⟩ (hv_X0_cover l D cy a _ RO  ) (cwV 1 hts gX9_lack_X0_cover rfl rfl rfl (by decide +kernel) ⟨Nat.le_of_ble_eq_true rfl, Nat.le_of_ble_eq_true rfl⟩) hK hN hP hD hS hA rfl rfl rfl hl.1 rfl (Nat.le_of_ble_eq_true rfl) dX9_lack_8 ⟨Nat.le_of_ble_eq_true rfl, Nat.le_of_ble_eq_true rfl⟩ (fun u H locs hw hP hD hS => ?_)
  obtain ⟨z_1, z_2, z_3, z_4, z_5⟩ := u
  obtain ⟨h1, h2, h3, h4⟩ := hw
  dsimp only at h1 h2 h3 h4
  subst h1; subst h2; subst h3
  have h5 := h4.symm
  subst h5
  have hP : va_P D vwCl (CW cy a (fun _ => 0) (fun _ => 0) (va_up (fun _ => none) 100 (some (a 4))) z_4 RO) H := hP
  have hD : va_D A (CW cy a (fun _ => 0) (fun _ => 0) (va_up (fun _ => none) 100 (some (a 4))) z_4 RO) := hD
  refine lv_aload_n hx hb dX9_lack_11 rfl (lv_at hl 0 rfl) ?_
  refine va_get (D := D) (ci := 8) (v := .ref (a 8)) (C := RX9) (T := TX9) (N := 11) hx hb hts hi9 hown hK hP 0 rfl rfl 4 (by decide) hw0 (fun _ h9 => h9) rfl dX9_lack_12 ?_
  refine va_get (D := D) (ci := 0) (v := .long 0) (C := RX0) (T := TX0) (N := 7) hx hb hts hi0 hown hK hP 8 rfl rfl 5 (by decide) hw2 (fun _ h9 => h9) rfl dX9_lack_15 ?_
  refine kS_i (As := [.long 0]) (rest := []) ⟨hx, hb, hml, hown, hts⟩ (c_J13_bitCount_95d88 l 0) (va_cwS 1 hts gX9_lack_J13_bitCount_95d88 rfl rfl rfl (by decide +kernel) ⟨Nat.le_of_ble_eq_true rfl, Nat.le_of_ble_eq_true rfl⟩) rfl hl.1 rfl (Nat.le_of_ble_eq_true rfl) dX9_lack_18 ⟨Nat.le_of_ble_eq_true rfl, Nat.le_of_ble_eq_true rfl⟩ ?_
  exact qret_i hx hb hr hlocks (by decide) hS dX9_lack_21
theorem dX9_lacking_0 : decode cX9_lacking 0 = .ok (.iload_n 1, 1) := by decide +kernel
set_option maxRecDepth 20000 in
theorem ggX9_lacking_X1_isField : GoodIn wsX9_lacking wsX1_isField := goodIn_r _ [8] (by decide +kernel) (by decide +kernel)
set_option maxRecDepth 20000 in
theorem gX9_lacking_X1_isField : GoodIn wsX9_lacking (va_wsS RX9 60 yX1_isField wsX1_isField) := goodIn_app (goodIn_of _ (by decide +kernel)) ggX9_lacking_X1_isField
theorem dX9_lacking_1 : decode cX9_lacking 1 = .ok (.invokestatic 60, 3) := by decide +kernel
theorem dX9_lacking_4 : decode cX9_lacking 4 = .ok (.ifCond .ne 10, 3) := by decide +kernel
theorem dX9_lacking_14 : decode cX9_lacking 14 = .ok (.aload_n 0, 1) := by decide +kernel
theorem dX9_lacking_15 : decode cX9_lacking 15 = .ok (.getfield 38, 3) := by decide +kernel
theorem dX9_lacking_18 : decode cX9_lacking 18 = .ok (.aload_n 0, 1) := by decide +kernel
theorem dX9_lacking_19 : decode cX9_lacking 19 = .ok (.getfield 48, 3) := by decide +kernel
set_option maxRecDepth 20000 in
theorem ggX9_lacking_X0_cover : GoodIn wsX9_lacking wsX0_cover := goodIn_r _ [19, 20, 21, 22, 23, 24, 25, 26, 27, 18, 28, 29, 30, 31, 32, 33, 34, 35, 36, 37, 38, 39, 40, 41, 42, 43, 44, 45, 46, 47, 48, 49, 7, 50, 51, 52, 53, 54, 55, 56, 57, 58, 59, 60, 61, 62, 63, 79, 80, 81, 82, 83, 84, 85] (by decide +kernel) (by decide +kernel)
set_option maxRecDepth 20000 in
theorem gX9_lacking_X0_cover : GoodIn wsX9_lacking (wsV RX9 270 RX0 yX0_cover wsX0_cover) := goodIn_app (goodIn_of _ (by decide +kernel)) ggX9_lacking_X0_cover
theorem dX9_lacking_22 : decode cX9_lacking 22 = .ok (.invokevirtual 270, 3) := by decide +kernel
theorem dX9_lacking_25 : decode cX9_lacking 25 = .ok (.aload_n 0, 1) := by decide +kernel
theorem dX9_lacking_26 : decode cX9_lacking 26 = .ok (.getfield 38, 3) := by decide +kernel
theorem dX9_lacking_29 : decode cX9_lacking 29 = .ok (.getfield 276, 3) := by decide +kernel
theorem dX9_lacking_32 : decode cX9_lacking 32 = .ok (.iload_n 1, 1) := by decide +kernel
set_option maxRecDepth 20000 in
theorem ggX9_lacking_X1_holds : GoodIn wsX9_lacking wsX1_holds := goodIn_r _ [50] (by decide +kernel) (by decide +kernel)
set_option maxRecDepth 20000 in
theorem gX9_lacking_X1_holds : GoodIn wsX9_lacking (va_wsS RX9 66 yX1_holds wsX1_holds) := goodIn_app (goodIn_of _ (by decide +kernel)) ggX9_lacking_X1_holds
theorem dX9_lacking_33 : decode cX9_lacking 33 = .ok (.invokestatic 66, 3) := by decide +kernel
set_option maxRecDepth 20000 in
theorem ggX9_lacking_X9_asNumber : GoodIn wsX9_lacking wsX9_asNumber := goodIn_r _ [67] (by decide +kernel) (by decide +kernel)
set_option maxRecDepth 20000 in
theorem gX9_lacking_X9_asNumber : GoodIn wsX9_lacking (va_wsS RX9 70 yX9_asNumber wsX9_asNumber) := goodIn_app (goodIn_of _ (by decide +kernel)) ggX9_lacking_X9_asNumber
theorem dX9_lacking_36 : decode cX9_lacking 36 = .ok (.invokestatic 70, 3) := by decide +kernel
theorem dX9_lacking_39 : decode cX9_lacking 39 = .ok (.ireturn, 1) := by decide +kernel
theorem dX9_lacking_7 : decode cX9_lacking 7 = .ok (.aload_n 0, 1) := by decide +kernel
theorem dX9_lacking_8 : decode cX9_lacking 8 = .ok (.ldc 43, 2) := by decide +kernel
set_option maxRecDepth 20000 in
theorem ggX9_lacking_X9_finding : GoodIn wsX9_lacking wsX9_finding := goodIn_r _ [13, 14, 68, 69, 70, 71, 72, 73, 74, 75, 76, 77, 78] (by decide +kernel) (by decide +kernel)
set_option maxRecDepth 20000 in
theorem gX9_lacking_X9_finding : GoodIn wsX9_lacking (wsV RX9 44 RX9 yX9_finding wsX9_finding) := goodIn_app (goodIn_of _ (by decide +kernel)) ggX9_lacking_X9_finding
theorem dX9_lacking_10 : decode cX9_lacking 10 = .ok (.invokevirtual 44, 3) := by decide +kernel
theorem dX9_lacking_13 : decode cX9_lacking 13 = .ok (.ireturn, 1) := by decide +kernel
set_option maxRecDepth 20000 in
theorem ihX9_lacking_0 : ∀ w ∈ u_ws RX0 TX0 7, w ∈ wsX9_lacking := by decide +kernel
set_option maxRecDepth 20000 in
theorem ihX9_lacking_9 : ∀ w ∈ u_ws RX9 TX9 11, w ∈ wsX9_lacking := by decide +kernel
set_option maxHeartbeats 4000000 in
set_option maxRecDepth 100000 in
theorem xp_X9_lacking (l : Launch) (D : va_G) (cy : Nat → ClassId) (a : Nat → Nat) (sz : Nat) (RO : Nat → Nat → Option Nat) (x0 : Int32) : Met l yX9_lacking wsX9_lacking ({ frames := 4, cells := 0, slots := 0, locals := 97 }) (va_Pc [.ref (a 0), .int x0] (PW D cy sz (CW cy a (fun _ => 0) (fun _ => 0) (va_up (fun _ => none) 100 (some (a 4))) (fun _ _ => 0) RO))) (va_Qi (fun r (_ : Unit) => r = a_fld x0 0) (fun _ _ => True) (va_A (CW cy a (fun _ => 0) (fun _ => 0) (va_up (fun _ => none) 100 (some (a 4))) (fun _ _ => 0) RO) sz)) 0 0 (va_A (CW cy a (fun _ => 0) (fun _ => 0) (va_up (fun _ => none) 100 (some (a 4))) (fun _ _ => 0) RO) sz) := by
  refine Met.ofW (cc := cX9_lacking) (maxL := 2) (ret := (some .int)) (by decide) rfl ?_
  intro p e s m args below meth c s₁ B hml hv
  obtain ⟨rfl, rfl, hP, hK, hN, hD0⟩ := hv
  have hx := B.exec
  have hb := B.bytes
  have hr := B.returns
  have hts := atoms_spec (ws := wsX9_lacking) B.pre
  have hown : s.vm.findClass RX9 = some m.cls := findClass_of_methodNamed B.named
  have hlocks := B.notSynchronized
  have hw0 := hts (.fieldLink RX9 38 "ParquetLayer" "covering" "LParquetLayer$Covering;") (by decide +kernel)
  have hw1 := hts (.fieldLink RX9 48 "ParquetLayer" "fields" "J") (by decide +kernel)
  have hw2 := hts (.fieldLink RX9 276 "ParquetLayer$Covering" "reached" "J") (by decide +kernel)
  have hw3 := hts (.constant RX9 43 (-100001)) (by decide +kernel)
  have hi0 := ihX9_lacking_0
  have hi9 := ihX9_lacking_9
  have hD := hD0.self (sz := s.heap.size)
  generalize hAe : va_A (CW cy a (fun _ => 0) (fun _ => 0) (va_up (fun _ => none) 100 (some (a 4))) (fun _ _ => 0) RO) s.heap.size = A at hD ⊢
  have hA : ∀ q : Nat, s.heap.size ≤ q → A q := fun q h => by rw [← hAe]; exact Or.inr h
  have hS : va_S A s.heap s.heap [] := va_S.rf
  have hl := lv_entry ([.ref (a 0), .int x0]) (n := 2) (Nat.le_of_ble_eq_true rfl)
  rw [lg_entry_eq]
  generalize (lg_sl ([.ref (a 0), .int x0]) ++ List.replicate (2 - (lg_sl ([.ref (a 0), .int x0])).length) Slot.unset).toArray = ls at hl ⊢
  have hl : lv_has ls 2 [(0, .ref (a 0)), (1, .int x0)] := hl
  refine lv_iload_n hx hb dX9_lacking_0 rfl (lv_at hl 1 rfl) ?_
  refine kS_i (As := [.int x0]) (rest := []) ⟨hx, hb, hml, hown, hts⟩ (c_X1_isField l x0) (va_cwS 1 hts gX9_lacking_X1_isField rfl rfl rfl (by decide +kernel) ⟨Nat.le_of_ble_eq_true rfl, Nat.le_of_ble_eq_true rfl⟩) rfl hl.1 rfl (Nat.le_of_ble_eq_true rfl) dX9_lacking_1 ⟨Nat.le_of_ble_eq_true rfl, Nat.le_of_ble_eq_true rfl⟩ ?_
  refine lv_if_ne (tgt := 14) hx hb dX9_lacking_4 (by decide) (fun c_1 => ?_) (fun c_1 => ?_)
  · replace c_1 := bI_t c_1
    refine lv_aload_n hx hb dX9_lacking_14 rfl (lv_at hl 0 rfl) ?_
    refine va_get (D := D) (ci := 8) (v := .ref (a 8)) (C := RX9) (T := TX9) (N := 11) hx hb hts hi9 hown hK hP 0 rfl rfl 4 (by decide) hw0 (fun _ h9 => h9) rfl dX9_lacking_15 ?_
    refine lv_aload_n hx hb dX9_lacking_18 rfl (lv_at hl 0 rfl) ?_
    refine va_get (D := D) (ci := 8) (v := .long 0) (C := RX9) (T := TX9) (N := 11) hx hb hts hi9 hown hK hP 0 rfl rfl 6 (by decide) hw1 (fun _ h9 => h9) rfl dX9_lacking_19 ?_
    refine kM_v (As := [.long 0]) (rest := []) (q0 := 8) ⟨hx, hb, hml, hown, hts⟩ (hv_X0_cover l D cy a _ RO  ) (cwV 1 hts gX9_lacking_X0_cover rfl rfl rfl (by decide +kernel) ⟨Nat.le_of_ble_eq_true rfl, Nat.le_of_ble_eq_true rfl⟩) hK hN hP hD hS hA rfl rfl rfl hl.1 rfl (Nat.le_of_ble_eq_true rfl) dX9_lacking_22 ⟨Nat.le_of_ble_eq_true rfl, Nat.le_of_ble_eq_true rfl⟩ (fun u H locs hw hP hD hS => ?_)
    obtain ⟨z_2, z_3, z_4, z_5, z_6⟩ := u
    obtain ⟨h1, h2, h3, h4⟩ := hw
    dsimp only at h1 h2 h3 h4
    subst h1; subst h2; subst h3
    have h5 := h4.symm
    subst h5
    have hP : va_P D vwCl (CW cy a (fun _ => 0) (fun _ => 0) (va_up (fun _ => none) 100 (some (a 4))) z_5 RO) H := hP
    have hD : va_D A (CW cy a (fun _ => 0) (fun _ => 0) (va_up (fun _ => none) 100 (some (a 4))) z_5 RO) := hD
    refine lv_aload_n hx hb dX9_lacking_25 rfl (lv_at hl 0 rfl) ?_
    refine va_get (D := D) (ci := 8) (v := .ref (a 8)) (C := RX9) (T := TX9) (N := 11) hx hb hts hi9 hown hK hP 0 rfl rfl 4 (by decide) hw0 (fun _ h9 => h9) rfl dX9_lacking_26 ?_
    refine va_get (D := D) (ci := 0) (v := .long 0) (C := RX0) (T := TX0) (N := 7) hx hb hts hi0 hown hK hP 8 rfl rfl 6 (by decide) hw2 (fun _ h9 => h9) rfl dX9_lacking_29 ?_
    refine lv_iload_n hx hb dX9_lacking_32 rfl (lv_at hl 1 rfl) ?_
    refine kS_i (As := [.long 0, .int x0]) (rest := []) ⟨hx, hb, hml, hown, hts⟩ (c_X1_holds l 0 x0) (va_cwS 2 hts gX9_lacking_X1_holds rfl rfl rfl (by decide +kernel) ⟨Nat.le_of_ble_eq_true rfl, Nat.le_of_ble_eq_true rfl⟩) rfl hl.1 rfl (Nat.le_of_ble_eq_true rfl) dX9_lacking_33 ⟨Nat.le_of_ble_eq_true rfl, Nat.le_of_ble_eq_true rfl⟩ ?_
    refine wtop_i (y := 0) (by rw [g_holds0]; rfl) ?_
    refine kS_i (As := [.int 0]) (rest := []) ⟨hx, hb, hml, hown, hts⟩ (c_X9_asNumber l false) (va_cwS 1 hts gX9_lacking_X9_asNumber rfl rfl rfl (by decide +kernel) ⟨Nat.le_of_ble_eq_true rfl, Nat.le_of_ble_eq_true rfl⟩) rfl hl.1 rfl (Nat.le_of_ble_eq_true rfl) dX9_lacking_36 ⟨Nat.le_of_ble_eq_true rfl, Nat.le_of_ble_eq_true rfl⟩ ?_
    exact qret_i hx hb hr hlocks (by simp [a_fld, bI, ← g_isField_eq, c_1]) hS dX9_lacking_39
  · replace c_1 := bI_f c_1
    refine lv_aload_n hx hb dX9_lacking_7 rfl (lv_at hl 0 rfl) ?_
    refine lv_ldc (v := (-100001)) hx hb hown hw3 dX9_lacking_8 ?_
    refine kM_i (As := [.int (-100001)]) (rest := []) (q0 := 0) ⟨hx, hb, hml, hown, hts⟩ (c_X9_finding l D cy a _ (fun _ => 0) (fun _ => 0) (va_up (fun _ => none) 100 (some (a 4))) (fun _ _ => 0) RO (-100001) ) (cwV 1 hts gX9_lacking_X9_finding rfl rfl rfl (by decide +kernel) ⟨Nat.le_of_ble_eq_true rfl, Nat.le_of_ble_eq_true rfl⟩) hK hN hP hD hS hA rfl rfl rfl hl.1 rfl (Nat.le_of_ble_eq_true rfl) dX9_lacking_10 ⟨Nat.le_of_ble_eq_true rfl, Nat.le_of_ble_eq_true rfl⟩ (fun r u H locs hw hP hD hS => ?_)
    obtain ⟨rfl, rfl⟩ := hw
    have hP : va_P D vwCl (CW cy a (fun _ => 0) (va_up (fun _ => 0) 10 (0 + 1)) (va_up (fun _ => none) 100 (some (a 4))) (fun _ _ => 0) RO) H := hP
    have hD : va_D A (CW cy a (fun _ => 0) (va_up (fun _ => 0) 10 (0 + 1)) (va_up (fun _ => none) 100 (some (a 4))) (fun _ _ => 0) RO) := hD
    exact qret_i hx hb hr hlocks (by simp [a_fld, bI, ← g_isField_eq, c_1]) hS dX9_lacking_13
