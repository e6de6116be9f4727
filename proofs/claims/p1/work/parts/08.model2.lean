theorem within_m1 (x : Int32) : m_within x 0 (-1) = false := by
  cases h : m_within x 0 (-1)
  · rfl
  · simp [m_within, Int32.lt_iff_toInt_lt] at h
    have h1 : (-1 : Int32).toInt = -1 := rfl
    have h2 : (0 : Int32).toInt = 0 := rfl
    omega
theorem dX10_countAll_0 : decode cX10_countAll 0 = .ok (.aload_n 0, 1) := by decide +kernel
set_option maxRecDepth 20000 in
theorem ggX10_countAll_X10_findGlued : GoodIn wsX10_countAll wsX10_findGlued := goodIn_r _ [5, 6, 7, 8, 9, 10, 11, 12, 4, 13, 14, 15, 16, 17, 18, 19, 20, 21, 22, 23, 24, 25, 26, 27, 28, 29, 30, 31, 32, 33, 34, 53, 54, 55, 56, 57, 58, 59, 60, 61, 62, 63, 64, 65, 66, 67, 68, 69, 70, 71, 72, 73, 74, 75, 76, 77, 78, 79, 80, 81, 82] (by decide +kernel) (by decide +kernel)
set_option maxRecDepth 20000 in
theorem gX10_countAll_X10_findGlued : GoodIn wsX10_countAll (wsV RX10 201 RX10 yX10_findGlued wsX10_findGlued) := goodIn_app (goodIn_of _ (by decide +kernel)) ggX10_countAll_X10_findGlued
theorem dX10_countAll_1 : decode cX10_countAll 1 = .ok (.invokevirtual 201, 3) := by decide +kernel
theorem dX10_countAll_4 : decode cX10_countAll 4 = .ok (.aload_n 0, 1) := by decide +kernel
set_option maxRecDepth 20000 in
theorem ggX10_countAll_X10_findWays : GoodIn wsX10_countAll wsX10_findWays := goodIn_r _ [38, 39, 40, 41, 42, 4, 43, 44, 45, 46, 47, 48, 8, 7, 6, 31, 32, 33, 34, 49, 50, 51, 52, 53, 54, 55, 56, 57, 58, 59, 60, 61, 62, 63, 64, 65, 66, 67, 68, 69, 70, 71, 72, 73, 74, 75, 76, 77, 78, 79, 80, 81, 82] (by decide +kernel) (by decide +kernel)
set_option maxRecDepth 20000 in
theorem gX10_countAll_X10_findWays : GoodIn wsX10_countAll (wsV RX10 204 RX10 yX10_findWays wsX10_findWays) := goodIn_app (goodIn_of _ (by decide +kernel)) ggX10_countAll_X10_findWays
theorem dX10_countAll_5 : decode cX10_countAll 5 = .ok (.invokevirtual 204, 3) := by decide +kernel
theorem dX10_countAll_8 : decode cX10_countAll 8 = .ok (.aload_n 0, 1) := by decide +kernel
theorem dX10_countAll_9 : decode cX10_countAll 9 = .ok (.iconst 0, 1) := by decide +kernel
theorem dX10_countAll_10 : decode cX10_countAll 10 = .ok (.iconst 0, 1) := by decide +kernel
set_option maxRecDepth 20000 in
theorem ggX10_countAll_X10_waysAt : GoodIn wsX10_countAll wsX10_waysAt := goodIn_r _ [52, 39, 53, 54, 55, 56, 57, 58, 59, 60, 61, 62, 63, 64, 65, 66, 67, 68, 69, 70, 71, 72, 73, 74, 75, 76, 77, 78, 79, 80, 81, 82] (by decide +kernel) (by decide +kernel)
set_option maxRecDepth 20000 in
theorem gX10_countAll_X10_waysAt : GoodIn wsX10_countAll (wsV RX10 197 RX10 yX10_waysAt wsX10_waysAt) := goodIn_app (goodIn_of _ (by decide +kernel)) ggX10_countAll_X10_waysAt
theorem dX10_countAll_11 : decode cX10_countAll 11 = .ok (.invokevirtual 197, 3) := by decide +kernel
theorem dX10_countAll_14 : decode cX10_countAll 14 = .ok (.ireturn, 1) := by decide +kernel
set_option maxHeartbeats 4000000 in
set_option maxRecDepth 100000 in
theorem hv_X10_countAll (l : Launch) (D : va_G) (cy : Nat → ClassId) (a : Nat → Nat) (sz : Nat)   : Met l yX10_countAll wsX10_countAll ({ frames := 3, cells := 0, slots := 0, locals := 72 }) (va_Pc [.ref (a 0)] (PW D cy sz (MW cy a (fun _ => 0) (fun _ => 0) (fun _ _ => 0) (fun _ _ => 0)))) (va_Qi (fun r (u : MS) => r = 1 ∧ u.1 = (fun _ => 0) ∧ u.2.1 = (fun _ => 0) ∧ u.2.2.2 = (fun _ _ => 0)) (BW D (va_A (MW cy a (fun _ => 0) (fun _ => 0) (fun _ _ => 0) (fun _ _ => 0)) sz) (MWu cy a)) (va_A (MW cy a (fun _ => 0) (fun _ => 0) (fun _ _ => 0) (fun _ _ => 0)) sz)) 0 0 (va_A (MW cy a (fun _ => 0) (fun _ => 0) (fun _ _ => 0) (fun _ _ => 0)) sz) := by
  refine Met.ofW (cc := cX10_countAll) (maxL := 1) (ret := (some .int)) (by decide) rfl ?_
  intro p e s m args below meth c s₁ B hml hv
  obtain ⟨rfl, rfl, hP, hK, hN, hD0⟩ := hv
  have hx := B.exec
  have hb := B.bytes
  have hr := B.returns
  have hts := atoms_spec (ws := wsX10_countAll) B.pre
  have hown : s.vm.findClass RX10 = some m.cls := findClass_of_methodNamed B.named
  have hlocks := B.notSynchronized
  have hD := hD0.self (sz := s.heap.size)
  generalize hAe : va_A (MW cy a (fun _ => 0) (fun _ => 0) (fun _ _ => 0) (fun _ _ => 0)) s.heap.size = A at hD ⊢
  have hA : ∀ q : Nat, s.heap.size ≤ q → A q := fun q h => by rw [← hAe]; exact Or.inr h
  have hS : va_S A s.heap s.heap [] := va_S.rf
  have hl := lv_entry ([.ref (a 0)]) (n := 1) (Nat.le_of_ble_eq_true rfl)
  rw [lg_entry_eq]
  generalize (lg_sl ([.ref (a 0)]) ++ List.replicate (1 - (lg_sl ([.ref (a 0)])).length) Slot.unset).toArray = ls at hl ⊢
  have hl : lv_has ls 1 [(0, .ref (a 0))] := hl
  refine lv_aload_n hx hb dX10_countAll_0 rfl (lv_at hl 0 rfl) ?_
  refine kM_v (As := []) (rest := []) (q0 := 0) ⟨hx, hb, hml, hown, hts⟩ (c_X10_findGlued l D cy a _   ) (cwV 0 hts gX10_countAll_X10_findGlued rfl rfl rfl (by decide +kernel) ⟨Nat.le_of_ble_eq_true rfl, Nat.le_of_ble_eq_true rfl⟩) hK hN hP hD hS hA rfl rfl rfl hl.1 rfl (Nat.le_of_ble_eq_true rfl) dX10_countAll_1 ⟨Nat.le_of_ble_eq_true rfl, Nat.le_of_ble_eq_true rfl⟩ (fun u H locs hw hP hD hS => ?_)
  obtain rfl := hw
  have hP : va_P D vwCl (MW cy a (fun _ => 0) (fun _ => 0) (fun _ _ => 0) (fun _ _ => 0)) H := hP
  have hD : va_D A (MW cy a (fun _ => 0) (fun _ => 0) (fun _ _ => 0) (fun _ _ => 0)) := hD
  refine lv_aload_n hx hb dX10_countAll_4 rfl (lv_at hl 0 rfl) ?_
  refine kM_v (As := []) (rest := []) (q0 := 0) ⟨hx, hb, hml, hown, hts⟩ (hv_X10_findWays l D cy a _   ) (cwV 0 hts gX10_countAll_X10_findWays rfl rfl rfl (by decide +kernel) ⟨Nat.le_of_ble_eq_true rfl, Nat.le_of_ble_eq_true rfl⟩) hK hN hP hD hS hA rfl rfl rfl hl.1 rfl (Nat.le_of_ble_eq_true rfl) dX10_countAll_5 ⟨Nat.le_of_ble_eq_true rfl, Nat.le_of_ble_eq_true rfl⟩ (fun u H locs hw hP hD hS => ?_)
  obtain ⟨W0, hW0, rfl⟩ := hw
  have hP : va_P D vwCl (MW cy a (fun _ => 0) (fun _ => 0) (va_up (fun _ _ => 0) 12 W0) (fun _ _ => 0)) H := hP
  have hD : va_D A (MW cy a (fun _ => 0) (fun _ => 0) (va_up (fun _ _ => 0) 12 W0) (fun _ _ => 0)) := hD
  refine lv_aload_n hx hb dX10_countAll_8 rfl (lv_at hl 0 rfl) ?_
  refine lv_iconst (v := 0) hx hb dX10_countAll_9 (by decide) ?_
  refine lv_iconst (v := 0) hx hb dX10_countAll_10 (by decide) ?_
  refine kR_i (As := [.int 0, .int 0]) (rest := []) (q0 := 0) ⟨hx, hb, hml, hown, hts⟩ (c_X10_waysAt l D cy a _ (fun _ => 0) (fun _ => 0) (va_up (fun _ _ => 0) 12 W0) (fun _ _ => 0) 0 0 (by unfold vp_in; decide)) (cwV 2 hts gX10_countAll_X10_waysAt rfl rfl rfl (by decide +kernel) ⟨Nat.le_of_ble_eq_true rfl, Nat.le_of_ble_eq_true rfl⟩) hK hN hP hD rfl rfl rfl hl.1 rfl (Nat.le_of_ble_eq_true rfl) dX10_countAll_11 ⟨Nat.le_of_ble_eq_true rfl, Nat.le_of_ble_eq_true rfl⟩ ?_
  refine wtop_i (y := 1) (hW0 0 (by decide) 0 (by decide)) ?_
  exact wret_i hx hb hr hlocks ((fun _ => 0), (fun _ => 0), (va_up (fun _ _ => 0) 12 W0), (fun _ _ => 0)) ⟨rfl, rfl, rfl, rfl⟩ hP hD hS dX10_countAll_14
theorem dX10_walk_17 : decode cX10_walk 17 = .ok (.iload 4, 2) := by decide +kernel
theorem dX10_walk_19 : decode cX10_walk 19 = .ok (.bipush 64, 2) := by decide +kernel
theorem dX10_walk_21 : decode cX10_walk 21 = .ok (.if_icmp .ge 157, 3) := by decide +kernel
theorem dX10_walk_178 : decode cX10_walk 178 = .ok (.return_, 1) := by decide +kernel
theorem dX10_walk_24 : decode cX10_walk 24 = .ok (.iload_n 3, 1) := by decide +kernel
theorem dX10_walk_25 : decode cX10_walk 25 = .ok (.iconst 1, 1) := by decide +kernel
theorem dX10_walk_26 : decode cX10_walk 26 = .ok (.ishr, 1) := by decide +kernel
theorem dX10_walk_27 : decode cX10_walk 27 = .ok (.istore 5, 2) := by decide +kernel
theorem dX10_walk_29 : decode cX10_walk 29 = .ok (.aload_n 0, 1) := by decide +kernel
theorem dX10_walk_30 : decode cX10_walk 30 = .ok (.getfield 81, 3) := by decide +kernel
theorem dX10_walk_33 : decode cX10_walk 33 = .ok (.iload 4, 2) := by decide +kernel
set_option maxRecDepth 20000 in
theorem ggX10_walk_X10_hasBit : GoodIn wsX10_walk wsX10_hasBit := goodIn_r _ [7] (by decide +kernel) (by decide +kernel)
set_option maxRecDepth 20000 in
theorem gX10_walk_X10_hasBit : GoodIn wsX10_walk (va_wsS RX10 74 yX10_hasBit wsX10_hasBit) := goodIn_app (goodIn_of _ (by decide +kernel)) ggX10_walk_X10_hasBit
theorem dX10_walk_35 : decode cX10_walk 35 = .ok (.invokestatic 74, 3) := by decide +kernel
theorem dX10_walk_38 : decode cX10_walk 38 = .ok (.ifCond .eq 131, 3) := by decide +kernel
theorem dX10_walk_169 : decode cX10_walk 169 = .ok (.iload 5, 2) := by decide +kernel
theorem dX10_walk_171 : decode cX10_walk 171 = .ok (.istore_n 3, 1) := by decide +kernel
theorem dX10_walk_172 : decode cX10_walk 172 = .ok (.iinc 4 1, 3) := by decide +kernel
theorem dX10_walk_175 : decode cX10_walk 175 = .ok (.goto (-158), 3) := by decide +kernel
theorem dX10_walk_0 : decode cX10_walk 0 = .ok (.iload_n 1, 1) := by decide +kernel
theorem dX10_walk_1 : decode cX10_walk 1 = .ok (.istore_n 2, 1) := by decide +kernel
theorem dX10_walk_2 : decode cX10_walk 2 = .ok (.iconst 0, 1) := by decide +kernel
theorem dX10_walk_3 : decode cX10_walk 3 = .ok (.istore_n 3, 1) := by decide +kernel
theorem dX10_walk_4 : decode cX10_walk 4 = .ok (.aload_n 0, 1) := by decide +kernel
theorem dX10_walk_5 : decode cX10_walk 5 = .ok (.lconst 0, 1) := by decide +kernel
theorem dX10_walk_6 : decode cX10_walk 6 = .ok (.putfield 210, 3) := by decide +kernel
theorem dX10_walk_9 : decode cX10_walk 9 = .ok (.aload_n 0, 1) := by decide +kernel
theorem dX10_walk_10 : decode cX10_walk 10 = .ok (.lconst 0, 1) := by decide +kernel
theorem dX10_walk_11 : decode cX10_walk 11 = .ok (.putfield 213, 3) := by decide +kernel
theorem dX10_walk_14 : decode cX10_walk 14 = .ok (.iconst 0, 1) := by decide +kernel
theorem dX10_walk_15 : decode cX10_walk 15 = .ok (.istore 4, 2) := by decide +kernel
set_option maxRecDepth 20000 in
theorem ihX10_walk_10 : ∀ w ∈ u_ws RX10 TX10 30, w ∈ wsX10_walk := by decide +kernel
set_option maxHeartbeats 4000000 in
set_option maxRecDepth 100000 in
theorem c_X10_walk (l : Launch) (D : va_G) (cy : Nat → ClassId) (a : Nat → Nat) (sz : Nat) (R : Nat → Nat → Int32) (x0 : Int32) : Met l yX10_walk wsX10_walk ({ frames := 1, cells := 0, slots := 0, locals := 22 }) (va_Pc [.ref (a 0), .int x0] (PW D cy sz (MW cy a (fun _ => 0) (fun _ => 0) R (fun _ _ => 0)))) (va_Qv (fun (u : MS) => u = ((fun _ => 0), (fun _ => 0), R, (fun _ _ => 0))) (BW D (va_A (MW cy a (fun _ => 0) (fun _ => 0) R (fun _ _ => 0)) sz) (MWu cy a)) (va_A (MW cy a (fun _ => 0) (fun _ => 0) R (fun _ _ => 0)) sz)) 0 0 (va_A (MW cy a (fun _ => 0) (fun _ => 0) R (fun _ _ => 0)) sz) := by
  refine Met.ofW (cc := cX10_walk) (maxL := 8) (ret := none) (by decide) rfl ?_
  intro p e s m args below meth c s₁ B hml hv
  obtain ⟨rfl, rfl, hP, hK, hN, hD0⟩ := hv
  have hx := B.exec
  have hb := B.bytes
  have hr := B.returns
  have hts := atoms_spec (ws := wsX10_walk) B.pre
  have hown : s.vm.findClass RX10 = some m.cls := findClass_of_methodNamed B.named
  have hlocks := B.notSynchronized
  have hw0 := hts (.fieldLink RX10 81 "ParquetLayerModel" "floor" "J") (by decide +kernel)
  have hw1 := hts (.fieldLink RX10 210 "ParquetLayerModel" "walkAlong" "J") (by decide +kernel)
  have hw2 := hts (.fieldLink RX10 213 "ParquetLayerModel" "walkAcross" "J") (by decide +kernel)
  have hi10 := ihX10_walk_10
  have hD := hD0.self (sz := s.heap.size)
  generalize hAe : va_A (MW cy a (fun _ => 0) (fun _ => 0) R (fun _ _ => 0)) s.heap.size = A at hD ⊢
  have hA : ∀ q : Nat, s.heap.size ≤ q → A q := fun q h => by rw [← hAe]; exact Or.inr h
  have hS : va_S A s.heap s.heap [] := va_S.rf
  have hl := lv_entry ([.ref (a 0), .int x0]) (n := 8) (Nat.le_of_ble_eq_true rfl)
  rw [lg_entry_eq]
  generalize (lg_sl ([.ref (a 0), .int x0]) ++ List.replicate (8 - (lg_sl ([.ref (a 0), .int x0])).length) Slot.unset).toArray = ls at hl ⊢
  have hl : lv_has ls 8 [(0, .ref (a 0)), (1, .int x0)] := hl
  have lp : ∀ (n17 : Nat), ∀ (i : Nat), (i ≤ 64) → (64 - i) < n17 → ∀ (H : Heap) (locs : List Loc), va_P D vwCl (MW cy a (fun _ => 0) (fun _ => 0) R (fun _ _ => 0)) H → va_D A (MW cy a (fun _ => 0) (fun _ => 0) R (fun _ _ => 0)) → va_S A s.heap H locs → ∀ (ls : Array Slot), lv_has ls 8 [(0, .ref (a 0)), (1, .int x0), (2, .int x0), (3, .int 0), (4, .int (nI i))] → W p l e (headSpec wsX10_walk ({ frames := 1, cells := 0, slots := 0, locals := 22 })).room s m ([.ref (a 0), .int x0] : List Value).toArray below meth c H locs 0 0 (MQ below (va_Qv (fun (u : MS) => u = ((fun _ => 0), (fun _ => 0), R, (fun _ _ => 0))) (BW D A (MWu cy a)) A) ([.ref (a 0), .int x0] : List Value).toArray s 0 0 A) (F0 m 17 ls []) := by
    intro n17
    induction n17 with
    | zero => intro i hi hn; exact absurd hn (Nat.not_lt_zero _)
    | succ n17 ih17 =>
      intro i hi hn17 H locs hP hD hS ls hl
      refine lv_iload hx hb dX10_walk_17 (lv_at hl 4 rfl) ?_
      refine lv_bipush (v := 64) hx hb dX10_walk_19 (by decide) ?_
      refine lv_icmp_ge (tgt := 178) hx hb dX10_walk_21 (by decide) (fun c_1 => ?_) (fun c_1 => ?_)
      · have hie := ctr_ge (N := 64) (by decide) hi c_1
        subst hie
        exact wret_v hx hb hr hlocks ((fun _ => 0), (fun _ => 0), R, (fun _ _ => 0)) rfl hP hD hS dX10_walk_178
      · have hlt := ctr_lt (N := 64) (by decide) hi c_1
        refine lv_iload_n hx hb dX10_walk_24 rfl (lv_at hl 3 rfl) ?_
        refine lv_iconst (v := 1) hx hb dX10_walk_25 (by decide) ?_
        refine lv_ishr hx hb dX10_walk_26 ?_
        refine wtop_i (y := 0) (by decide) ?_
        refine lv_istore (lv' := [(5, .int 0), (0, .ref (a 0)), (1, .int x0), (2, .int x0), (3, .int 0), (4, .int (nI i))]) hx hb dX10_walk_27 hl (by decide) rfl (fun ls hl => ?_)
        refine lv_aload_n hx hb dX10_walk_29 rfl (lv_at hl 1 rfl) ?_
        refine va_get (D := D) (ci := 9) (v := .long 0) (C := RX10) (T := TX10) (N := 30) hx hb hts hi10 hown hK hP 0 rfl rfl 0 (by decide) hw0 (fun _ h9 => h9) rfl dX10_walk_30 ?_
        refine lv_iload hx hb dX10_walk_33 (lv_at hl 5 rfl) ?_
        refine kS_i (As := [.long 0, .int (nI i)]) (rest := []) ⟨hx, hb, hml, hown, hts⟩ (c_X10_hasBit l 0 (nI i)) (va_cwS 2 hts gX10_walk_X10_hasBit rfl rfl rfl (by decide +kernel) ⟨Nat.le_of_ble_eq_true rfl, Nat.le_of_ble_eq_true rfl⟩) rfl hl.1 rfl (Nat.le_of_ble_eq_true rfl) dX10_walk_35 ⟨Nat.le_of_ble_eq_true rfl, Nat.le_of_ble_eq_true rfl⟩ ?_
        refine lv_if_eq (tgt := 169) hx hb dX10_walk_38 (by decide) (fun c_2 => ?_) (fun c_2 => absurd (by rw [m_hasBit0]; rfl) c_2)
        refine lv_iload hx hb dX10_walk_169 (lv_at hl 0 rfl) ?_
        refine lv_istore_n (lv' := [(3, .int 0), (5, .int 0), (0, .ref (a 0)), (1, .int x0), (2, .int x0), (4, .int (nI i))]) hx hb dX10_walk_171 rfl hl (by decide) rfl (fun ls hl => ?_)
        refine lv_iinc (v := nI (i + 1)) (lv' := [(4, .int (nI (i + 1))), (3, .int 0), (5, .int 0), (0, .ref (a 0)), (1, .int x0), (2, .int x0)]) hx hb dX10_walk_172 hl (k := 5) rfl (nI_1 _) (by decide) rfl (fun ls hl => ?_)
        refine lv_goto (tgt := 17) hx hb dX10_walk_175 (by decide) ?_
        exact ih17 (i + 1) (by omega) (by omega) _ _ hP hD hS ls (lv_sub hl [3, 4, 5, 1, 0] rfl)
  refine lv_iload_n hx hb dX10_walk_0 rfl (lv_at hl 1 rfl) ?_
  refine lv_istore_n (lv' := [(2, .int x0), (0, .ref (a 0)), (1, .int x0)]) hx hb dX10_walk_1 rfl hl (by decide) rfl (fun ls hl => ?_)
  refine lv_iconst (v := 0) hx hb dX10_walk_2 (by decide) ?_
  refine lv_istore_n (lv' := [(3, .int 0), (2, .int x0), (0, .ref (a 0)), (1, .int x0)]) hx hb dX10_walk_3 rfl hl (by decide) rfl (fun ls hl => ?_)
  refine lv_aload_n hx hb dX10_walk_4 rfl (lv_at hl 2 rfl) ?_
  refine lv_lconst (v := 0) hx hb dX10_walk_5 (by decide) ?_
  refine va_put (D := D) (ci := 9) (v := .long 0) (ty := .long) (C := RX10) (T := TX10) (N := 30) hx hb hts hi10 tyX10 tyX10_ok nmX10 hown hK hP hD hS 0 rfl rfl 22 (by decide) hw1 (fun _ h9 => h9) rfl (by decide +kernel) rfl rfl (Nat.le_of_ble_eq_true rfl) dX10_walk_6 (fun H locs hP hD hS => ?_)
  have hP : va_P D vwCl (MW cy a (fun _ => 0) (fun _ => 0) R (fun _ _ => 0)) H := hP
  have hD : va_D A (MW cy a (fun _ => 0) (fun _ => 0) R (fun _ _ => 0)) := hD
  refine lv_aload_n hx hb dX10_walk_9 rfl (lv_at hl 2 rfl) ?_
  refine lv_lconst (v := 0) hx hb dX10_walk_10 (by decide) ?_
  refine va_put (D := D) (ci := 9) (v := .long 0) (ty := .long) (C := RX10) (T := TX10) (N := 30) hx hb hts hi10 tyX10 tyX10_ok nmX10 hown hK hP hD hS 0 rfl rfl 23 (by decide) hw2 (fun _ h9 => h9) rfl (by decide +kernel) rfl rfl (Nat.le_of_ble_eq_true rfl) dX10_walk_11 (fun H locs hP hD hS => ?_)
  have hP : va_P D vwCl (MW cy a (fun _ => 0) (fun _ => 0) R (fun _ _ => 0)) H := hP
  have hD : va_D A (MW cy a (fun _ => 0) (fun _ => 0) R (fun _ _ => 0)) := hD
  refine lv_iconst (v := 0) hx hb dX10_walk_14 (by decide) ?_
  refine lv_istore (lv' := [(4, .int 0), (3, .int 0), (2, .int x0), (0, .ref (a 0)), (1, .int x0)]) hx hb dX10_walk_15 hl (by decide) rfl (fun ls hl => ?_)
  exact lp _ 0 (by omega) (Nat.lt_succ_self _) _ _ hP hD hS ls (lv_sub hl [3, 4, 2, 1, 0] rfl)
theorem dX10_take_0 : decode cX10_take 0 = .ok (.aload_n 0, 1) := by decide +kernel
theorem dX10_take_1 : decode cX10_take 1 = .ok (.iload_n 1, 1) := by decide +kernel
set_option maxRecDepth 20000 in
theorem ggX10_take_X10_walk : GoodIn wsX10_take wsX10_walk := goodIn_r _ [10, 1, 3, 11, 12, 13, 9, 14, 15, 16, 17, 18, 19, 20, 21, 22, 23, 24, 25, 26, 27, 28, 29, 30, 31, 32, 33, 34, 35, 36, 37, 38, 39, 40, 41, 42, 43, 44, 45, 46, 47, 48, 49, 50, 51, 52, 53, 54, 55, 56, 57, 58, 59, 60, 61] (by decide +kernel) (by decide +kernel)
set_option maxRecDepth 20000 in
theorem gX10_take_X10_walk : GoodIn wsX10_take (wsV RX10 216 RX10 yX10_walk wsX10_walk) := goodIn_app (goodIn_of _ (by decide +kernel)) ggX10_take_X10_walk
theorem dX10_take_2 : decode cX10_take 2 = .ok (.invokevirtual 216, 3) := by decide +kernel
theorem dX10_take_5 : decode cX10_take 5 = .ok (.aload_n 0, 1) := by decide +kernel
theorem dX10_take_6 : decode cX10_take 6 = .ok (.aload_n 0, 1) := by decide +kernel
theorem dX10_take_7 : decode cX10_take 7 = .ok (.getfield 210, 3) := by decide +kernel
theorem dX10_take_10 : decode cX10_take 10 = .ok (.putfield 92, 3) := by decide +kernel
theorem dX10_take_13 : decode cX10_take 13 = .ok (.aload_n 0, 1) := by decide +kernel
theorem dX10_take_14 : decode cX10_take 14 = .ok (.aload_n 0, 1) := by decide +kernel
theorem dX10_take_15 : decode cX10_take 15 = .ok (.getfield 213, 3) := by decide +kernel
theorem dX10_take_18 : decode cX10_take 18 = .ok (.putfield 95, 3) := by decide +kernel
theorem dX10_take_21 : decode cX10_take 21 = .ok (.aload_n 0, 1) := by decide +kernel
theorem dX10_take_22 : decode cX10_take 22 = .ok (.iconst 1, 1) := by decide +kernel
theorem dX10_take_23 : decode cX10_take 23 = .ok (.putfield 88, 3) := by decide +kernel
theorem dX10_take_26 : decode cX10_take 26 = .ok (.return_, 1) := by decide +kernel
set_option maxRecDepth 20000 in
theorem ihX10_take_10 : ∀ w ∈ u_ws RX10 TX10 30, w ∈ wsX10_take := by decide +kernel
set_option maxHeartbeats 4000000 in
set_option maxRecDepth 100000 in
theorem hv_X10_take (l : Launch) (D : va_G) (cy : Nat → ClassId) (a : Nat → Nat) (sz : Nat) (R : Nat → Nat → Int32) (x0 : Int32) : Met l yX10_take wsX10_take ({ frames := 2, cells := 0, slots := 0, locals := 49 }) (va_Pc [.ref (a 0), .int x0] (PW D cy sz (MW cy a (fun _ => 0) (fun _ => 0) R (fun _ _ => 0)))) (va_Qv (fun (u : MS) => True) (BW D (va_A (MW cy a (fun _ => 0) (fun _ => 0) R (fun _ _ => 0)) sz) (MWu cy a)) (va_A (MW cy a (fun _ => 0) (fun _ => 0) R (fun _ _ => 0)) sz)) 0 0 (va_A (MW cy a (fun _ => 0) (fun _ => 0) R (fun _ _ => 0)) sz) := by
  refine Met.ofW (cc := cX10_take) (maxL := 2) (ret := none) (by decide) rfl ?_
  intro p e s m args below meth c s₁ B hml hv
  obtain ⟨rfl, rfl, hP, hK, hN, hD0⟩ := hv
  have hx := B.exec
  have hb := B.bytes
  have hr := B.returns
  have hts := atoms_spec (ws := wsX10_take) B.pre
  have hown : s.vm.findClass RX10 = some m.cls := findClass_of_methodNamed B.named
  have hlocks := B.notSynchronized
  have hw0 := hts (.fieldLink RX10 210 "ParquetLayerModel" "walkAlong" "J") (by decide +kernel)
  have hw1 := hts (.fieldLink RX10 92 "ParquetLayerModel" "along" "J") (by decide +kernel)
  have hw2 := hts (.fieldLink RX10 213 "ParquetLayerModel" "walkAcross" "J") (by decide +kernel)
  have hw3 := hts (.fieldLink RX10 95 "ParquetLayerModel" "across" "J") (by decide +kernel)
  have hw4 := hts (.fieldLink RX10 88 "ParquetLayerModel" "isLaid" "Z") (by decide +kernel)
  have hi10 := ihX10_take_10
  have hD := hD0.self (sz := s.heap.size)
  generalize hAe : va_A (MW cy a (fun _ => 0) (fun _ => 0) R (fun _ _ => 0)) s.heap.size = A at hD ⊢
  have hA : ∀ q : Nat, s.heap.size ≤ q → A q := fun q h => by rw [← hAe]; exact Or.inr h
  have hS : va_S A s.heap s.heap [] := va_S.rf
  have hl := lv_entry ([.ref (a 0), .int x0]) (n := 2) (Nat.le_of_ble_eq_true rfl)
  rw [lg_entry_eq]
  generalize (lg_sl ([.ref (a 0), .int x0]) ++ List.replicate (2 - (lg_sl ([.ref (a 0), .int x0])).length) Slot.unset).toArray = ls at hl ⊢
  have hl : lv_has ls 2 [(0, .ref (a 0)), (1, .int x0)] := hl
  refine lv_aload_n hx hb dX10_take_0 rfl (lv_at hl 0 rfl) ?_
  refine lv_iload_n hx hb dX10_take_1 rfl (lv_at hl 1 rfl) ?_
  refine kM_v (As := [.int x0]) (rest := []) (q0 := 0) ⟨hx, hb, hml, hown, hts⟩ (c_X10_walk l D cy a _ R x0 ) (cwV 1 hts gX10_take_X10_walk rfl rfl rfl (by decide +kernel) ⟨Nat.le_of_ble_eq_true rfl, Nat.le_of_ble_eq_true rfl⟩) hK hN hP hD hS hA rfl rfl rfl hl.1 rfl (Nat.le_of_ble_eq_true rfl) dX10_take_2 ⟨Nat.le_of_ble_eq_true rfl, Nat.le_of_ble_eq_true rfl⟩ (fun u H locs hw hP hD hS => ?_)
  obtain rfl := hw
  have hP : va_P D vwCl (MW cy a (fun _ => 0) (fun _ => 0) R (fun _ _ => 0)) H := hP
  have hD : va_D A (MW cy a (fun _ => 0) (fun _ => 0) R (fun _ _ => 0)) := hD
  refine lv_aload_n hx hb dX10_take_5 rfl (lv_at hl 0 rfl) ?_
  refine lv_aload_n hx hb dX10_take_6 rfl (lv_at hl 0 rfl) ?_
  refine va_get (D := D) (ci := 9) (v := .long 0) (C := RX10) (T := TX10) (N := 30) hx hb hts hi10 hown hK hP 0 rfl rfl 22 (by decide) hw0 (fun _ h9 => h9) rfl dX10_take_7 ?_
  refine va_put (D := D) (ci := 9) (v := .long 0) (ty := .long) (C := RX10) (T := TX10) (N := 30) hx hb hts hi10 tyX10 tyX10_ok nmX10 hown hK hP hD hS 0 rfl rfl 4 (by decide) hw1 (fun _ h9 => h9) rfl (by decide +kernel) rfl rfl (Nat.le_of_ble_eq_true rfl) dX10_take_10 (fun H locs hP hD hS => ?_)
  have hP : va_P D vwCl (MW cy a (fun _ => 0) (fun _ => 0) R (fun _ _ => 0)) H := hP
  have hD : va_D A (MW cy a (fun _ => 0) (fun _ => 0) R (fun _ _ => 0)) := hD
  refine lv_aload_n hx hb dX10_take_13 rfl (lv_at hl 0 rfl) ?_
  refine lv_aload_n hx hb dX10_take_14 rfl (lv_at hl 0 rfl) ?_
  refine va_get (D := D) (ci := 9) (v := .long 0) (C := RX10) (T := TX10) (N := 30) hx hb hts hi10 hown hK hP 0 rfl rfl 23 (by decide) hw2 (fun _ h9 => h9) rfl dX10_take_15 ?_
  refine va_put (D := D) (ci := 9) (v := .long 0) (ty := .long) (C := RX10) (T := TX10) (N := 30) hx hb hts hi10 tyX10 tyX10_ok nmX10 hown hK hP hD hS 0 rfl rfl 5 (by decide) hw3 (fun _ h9 => h9) rfl (by decide +kernel) rfl rfl (Nat.le_of_ble_eq_true rfl) dX10_take_18 (fun H locs hP hD hS => ?_)
  have hP : va_P D vwCl (MW cy a (fun _ => 0) (fun _ => 0) R (fun _ _ => 0)) H := hP
  have hD : va_D A (MW cy a (fun _ => 0) (fun _ => 0) R (fun _ _ => 0)) := hD
  refine lv_aload_n hx hb dX10_take_21 rfl (lv_at hl 0 rfl) ?_
  refine lv_iconst (v := 1) hx hb dX10_take_22 (by decide) ?_
  refine va_put (D := D) (ci := 9) (v := .int 1) (ty := .boolean) (C := RX10) (T := TX10) (N := 30) hx hb hts hi10 tyX10 tyX10_ok nmX10 hown hK hP hD hS 0 rfl rfl 3 (by decide) hw4 (fun _ h9 => h9) rfl (by decide +kernel) rfl rfl (Nat.le_of_ble_eq_true rfl) dX10_take_23 (fun H locs hP hD hS => ?_)
  have hP : va_P D vwCl (MW cy a (fun _ => 0) (va_up (fun _ => 0) 3 1) R (fun _ _ => 0)) H := hP
  have hD : va_D A (MW cy a (fun _ => 0) (va_up (fun _ => 0) 3 1) R (fun _ _ => 0)) := hD
  exact wret_v hx hb hr hlocks ((fun _ => 0), (va_up (fun _ => 0) 3 1), R, (fun _ _ => 0)) trivial hP hD hS dX10_take_26
theorem dX10_count_0 : decode cX10_count 0 = .ok (.aload_n 0, 1) := by decide +kernel
set_option maxRecDepth 20000 in
theorem ggX10_count_X10_countAll : GoodIn wsX10_count wsX10_countAll := goodIn_r _ [5, 6, 7, 8, 4, 9, 10, 11, 12, 13, 14, 15, 16, 17, 18, 19, 20, 21, 22, 23, 24, 25, 26, 27, 28, 29, 30, 31, 32, 33, 34, 35, 36, 37, 38, 39, 40, 41, 42, 43, 44, 45, 46, 47, 48, 49, 50, 51, 52, 53, 54, 55, 56, 57, 58, 59, 60, 61, 62, 63, 64, 65, 66, 67, 68, 69, 70, 71, 72, 73, 74, 75, 76, 77, 78, 79, 80, 81, 82, 83, 84, 85, 86] (by decide +kernel) (by decide +kernel)
set_option maxRecDepth 20000 in
theorem gX10_count_X10_countAll : GoodIn wsX10_count (wsV RX10 207 RX10 yX10_countAll wsX10_countAll) := goodIn_app (goodIn_of _ (by decide +kernel)) ggX10_count_X10_countAll
theorem dX10_count_1 : decode cX10_count 1 = .ok (.invokevirtual 207, 3) := by decide +kernel
theorem dX10_count_4 : decode cX10_count 4 = .ok (.ireturn, 1) := by decide +kernel
set_option maxHeartbeats 4000000 in
set_option maxRecDepth 100000 in
theorem mp_X10_count (l : Launch) (D : va_G) (cy : Nat → ClassId) (a : Nat → Nat) (sz : Nat)  : Met l yX10_count wsX10_count ({ frames := 4, cells := 0, slots := 0, locals := 92 }) (va_Pc [.ref (a 0)] (PW D cy sz (MW cy a (fun _ => 0) (fun _ => 0) (fun _ _ => 0) (fun _ _ => 0)))) (va_Qi (fun r (_ : Unit) => r = 1) (fun _ _ => True) (va_A (MW cy a (fun _ => 0) (fun _ => 0) (fun _ _ => 0) (fun _ _ => 0)) sz)) 0 0 (va_A (MW cy a (fun _ => 0) (fun _ => 0) (fun _ _ => 0) (fun _ _ => 0)) sz) := by
  refine Met.ofW (cc := cX10_count) (maxL := 1) (ret := (some .int)) (by decide) rfl ?_
  intro p e s m args below meth c s₁ B hml hv
  obtain ⟨rfl, rfl, hP, hK, hN, hD0⟩ := hv
  have hx := B.exec
  have hb := B.bytes
  have hr := B.returns
  have hts := atoms_spec (ws := wsX10_count) B.pre
  have hown : s.vm.findClass RX10 = some m.cls := findClass_of_methodNamed B.named
  have hlocks := B.notSynchronized
  have hD := hD0.self (sz := s.heap.size)
  generalize hAe : va_A (MW cy a (fun _ => 0) (fun _ => 0) (fun _ _ => 0) (fun _ _ => 0)) s.heap.size = A at hD ⊢
  have hA : ∀ q : Nat, s.heap.size ≤ q → A q := fun q h => by rw [← hAe]; exact Or.inr h
  have hS : va_S A s.heap s.heap [] := va_S.rf
  have hl := lv_entry ([.ref (a 0)]) (n := 1) (Nat.le_of_ble_eq_true rfl)
  rw [lg_entry_eq]
  generalize (lg_sl ([.ref (a 0)]) ++ List.replicate (1 - (lg_sl ([.ref (a 0)])).length) Slot.unset).toArray = ls at hl ⊢
  have hl : lv_has ls 1 [(0, .ref (a 0))] := hl
  refine lv_aload_n hx hb dX10_count_0 rfl (lv_at hl 0 rfl) ?_
  refine kM_i (As := []) (rest := []) (q0 := 0) ⟨hx, hb, hml, hown, hts⟩ (hv_X10_countAll l D cy a _   ) (cwV 0 hts gX10_count_X10_countAll rfl rfl rfl (by decide +kernel) ⟨Nat.le_of_ble_eq_true rfl, Nat.le_of_ble_eq_true rfl⟩) hK hN hP hD hS hA rfl rfl rfl hl.1 rfl (Nat.le_of_ble_eq_true rfl) dX10_count_1 ⟨Nat.le_of_ble_eq_true rfl, Nat.le_of_ble_eq_true rfl⟩ (fun r u H locs hw hP hD hS => ?_)
  obtain ⟨z_J, z_I, Rh_1, z_RJ⟩ := u
  try dsimp only at hw
  obtain ⟨rfl, rfl, rfl, rfl⟩ := hw
  have hP : va_P D vwCl (MW cy a (fun _ => 0) (fun _ => 0) Rh_1 (fun _ _ => 0)) H := hP
  have hD : va_D A (MW cy a (fun _ => 0) (fun _ => 0) Rh_1 (fun _ _ => 0)) := hD
  exact qret_i hx hb hr hlocks rfl hS dX10_count_4
theorem dX10_with_0 : decode cX10_with 0 = .ok (.iload_n 1, 1) := by decide +kernel
set_option maxRecDepth 20000 in
theorem ggX10_with_X10_isField : GoodIn wsX10_with wsX10_isField := goodIn_r _ [8, 9, 10, 7, 11] (by decide +kernel) (by decide +kernel)
set_option maxRecDepth 20000 in
theorem gX10_with_X10_isField : GoodIn wsX10_with (va_wsS RX10 147 yX10_isField wsX10_isField) := goodIn_app (goodIn_of _ (by decide +kernel)) ggX10_with_X10_isField
theorem dX10_with_1 : decode cX10_with 1 = .ok (.invokestatic 147, 3) := by decide +kernel
theorem dX10_with_4 : decode cX10_with 4 = .ok (.ifCond .ne 10, 3) := by decide +kernel
theorem dX10_with_14 : decode cX10_with 14 = .ok (.iload_n 1, 1) := by decide +kernel
theorem dX10_with_15 : decode cX10_with 15 = .ok (.iload_n 2, 1) := by decide +kernel
set_option maxRecDepth 20000 in
theorem ggX10_with_X10_place : GoodIn wsX10_with wsX10_place := goodIn_r _ [19, 20] (by decide +kernel) (by decide +kernel)
set_option maxRecDepth 20000 in
theorem gX10_with_X10_place : GoodIn wsX10_with (va_wsS RX10 122 yX10_place wsX10_place) := goodIn_app (goodIn_of _ (by decide +kernel)) ggX10_with_X10_place
theorem dX10_with_16 : decode cX10_with 16 = .ok (.invokestatic 122, 3) := by decide +kernel
theorem dX10_with_19 : decode cX10_with 19 = .ok (.lstore_n 3, 1) := by decide +kernel
theorem dX10_with_20 : decode cX10_with 20 = .ok (.lload_n 3, 1) := by decide +kernel
theorem dX10_with_21 : decode cX10_with 21 = .ok (.lconst 0, 1) := by decide +kernel
theorem dX10_with_22 : decode cX10_with 22 = .ok (.lcmp, 1) := by decide +kernel
theorem dX10_with_23 : decode cX10_with 23 = .ok (.ifCond .eq 18, 3) := by decide +kernel
theorem dX10_with_41 : decode cX10_with 41 = .ok (.aload_n 0, 1) := by decide +kernel
theorem dX10_with_42 : decode cX10_with 42 = .ok (.ldc 176, 2) := by decide +kernel
set_option maxRecDepth 20000 in
theorem ggX10_with_X10_finding : GoodIn wsX10_with wsX10_finding := goodIn_r _ [15, 16, 66, 67, 68, 69, 70, 71, 72, 73, 74, 75, 76, 77, 78, 79, 80, 81, 82, 83, 84, 85, 86, 87, 88, 89, 90, 91, 92, 93, 94, 95] (by decide +kernel) (by decide +kernel)
set_option maxRecDepth 20000 in
theorem gX10_with_X10_finding : GoodIn wsX10_with (wsV RX10 99 RX10 yX10_finding wsX10_finding) := goodIn_app (goodIn_of _ (by decide +kernel)) ggX10_with_X10_finding
theorem dX10_with_44 : decode cX10_with 44 = .ok (.invokevirtual 99, 3) := by decide +kernel
theorem dX10_with_47 : decode cX10_with 47 = .ok (.ireturn, 1) := by decide +kernel
theorem dX10_with_26 : decode cX10_with 26 = .ok (.lload_n 3, 1) := by decide +kernel
theorem dX10_with_27 : decode cX10_with 27 = .ok (.aload_n 0, 1) := by decide +kernel
theorem dX10_with_28 : decode cX10_with 28 = .ok (.getfield 81, 3) := by decide +kernel
theorem dX10_with_31 : decode cX10_with 31 = .ok (.ldc2_w 126, 3) := by decide +kernel
theorem dX10_with_34 : decode cX10_with 34 = .ok (.lxor, 1) := by decide +kernel
theorem dX10_with_35 : decode cX10_with 35 = .ok (.land, 1) := by decide +kernel
theorem dX10_with_36 : decode cX10_with 36 = .ok (.lconst 0, 1) := by decide +kernel
theorem dX10_with_37 : decode cX10_with 37 = .ok (.lcmp, 1) := by decide +kernel
theorem dX10_with_38 : decode cX10_with 38 = .ok (.ifCond .eq 10, 3) := by decide +kernel
theorem dX10_with_7 : decode cX10_with 7 = .ok (.aload_n 0, 1) := by decide +kernel
theorem dX10_with_8 : decode cX10_with 8 = .ok (.ldc 141, 2) := by decide +kernel
theorem dX10_with_10 : decode cX10_with 10 = .ok (.invokevirtual 99, 3) := by decide +kernel
theorem dX10_with_13 : decode cX10_with 13 = .ok (.ireturn, 1) := by decide +kernel
set_option maxRecDepth 20000 in
theorem ihX10_with_10 : ∀ w ∈ u_ws RX10 TX10 30, w ∈ wsX10_with := by decide +kernel
set_option maxHeartbeats 4000000 in
set_option maxRecDepth 100000 in
theorem mp_X10_with (l : Launch) (D : va_G) (cy : Nat → ClassId) (a : Nat → Nat) (sz : Nat) (x0 : Int32) (x1 : Bool) : Met l yX10_with wsX10_with ({ frames := 2, cells := 0, slots := 0, locals := 42 }) (va_Pc [.ref (a 0), .int x0, .int (bI x1)] (PW D cy sz (MW cy a (fun _ => 0) (fun _ => 0) (fun _ _ => 0) (fun _ _ => 0)))) (va_Qi (fun r (_ : Unit) => r = a_fld x0 (-100003)) (fun _ _ => True) (va_A (MW cy a (fun _ => 0) (fun _ => 0) (fun _ _ => 0) (fun _ _ => 0)) sz)) 0 0 (va_A (MW cy a (fun _ => 0) (fun _ => 0) (fun _ _ => 0) (fun _ _ => 0)) sz) := by
  refine Met.ofW (cc := cX10_with) (maxL := 5) (ret := (some .int)) (by decide) rfl ?_
  intro p e s m args below meth c s₁ B hml hv
  obtain ⟨rfl, rfl, hP, hK, hN, hD0⟩ := hv
  have hx := B.exec
  have hb := B.bytes
  have hr := B.returns
  have hts := atoms_spec (ws := wsX10_with) B.pre
  have hown : s.vm.findClass RX10 = some m.cls := findClass_of_methodNamed B.named
  have hlocks := B.notSynchronized
  have hw0 := hts (.constant RX10 176 (-100003)) (by decide +kernel)
  have hw1 := hts (.fieldLink RX10 81 "ParquetLayerModel" "floor" "J") (by decide +kernel)
  have hw2 := hts (.constantLong RX10 126 (-1)) (by decide +kernel)
  have hw3 := hts (.constant RX10 141 (-100001)) (by decide +kernel)
  have hi10 := ihX10_with_10
  have hD := hD0.self (sz := s.heap.size)
  generalize hAe : va_A (MW cy a (fun _ => 0) (fun _ => 0) (fun _ _ => 0) (fun _ _ => 0)) s.heap.size = A at hD ⊢
  have hA : ∀ q : Nat, s.heap.size ≤ q → A q := fun q h => by rw [← hAe]; exact Or.inr h
  have hS : va_S A s.heap s.heap [] := va_S.rf
  have hl := lv_entry ([.ref (a 0), .int x0, .int (bI x1)]) (n := 5) (Nat.le_of_ble_eq_true rfl)
  rw [lg_entry_eq]
  generalize (lg_sl ([.ref (a 0), .int x0, .int (bI x1)]) ++ List.replicate (5 - (lg_sl ([.ref (a 0), .int x0, .int (bI x1)])).length) Slot.unset).toArray = ls at hl ⊢
  have hl : lv_has ls 5 [(0, .ref (a 0)), (1, .int x0), (2, .int (bI x1))] := hl
  refine lv_iload_n hx hb dX10_with_0 rfl (lv_at hl 1 rfl) ?_
  refine kS_i (As := [.int x0]) (rest := []) ⟨hx, hb, hml, hown, hts⟩ (c_X10_isField l x0) (va_cwS 1 hts gX10_with_X10_isField rfl rfl rfl (by decide +kernel) ⟨Nat.le_of_ble_eq_true rfl, Nat.le_of_ble_eq_true rfl⟩) rfl hl.1 rfl (Nat.le_of_ble_eq_true rfl) dX10_with_1 ⟨Nat.le_of_ble_eq_true rfl, Nat.le_of_ble_eq_true rfl⟩ ?_
  refine lv_if_ne (tgt := 14) hx hb dX10_with_4 (by decide) (fun c_1 => ?_) (fun c_1 => ?_)
  · replace c_1 := bI_t c_1
    refine lv_iload_n hx hb dX10_with_14 rfl (lv_at hl 1 rfl) ?_
    refine lv_iload_n hx hb dX10_with_15 rfl (lv_at hl 2 rfl) ?_
    refine kS_l (As := [.int x0, .int (bI x1)]) (rest := []) ⟨hx, hb, hml, hown, hts⟩ (c_X10_place l x0 x1) (va_cwS 2 hts gX10_with_X10_place rfl rfl rfl (by decide +kernel) ⟨Nat.le_of_ble_eq_true rfl, Nat.le_of_ble_eq_true rfl⟩) rfl hl.1 rfl (Nat.le_of_ble_eq_true rfl) dX10_with_16 ⟨Nat.le_of_ble_eq_true rfl, Nat.le_of_ble_eq_true rfl⟩ ?_
    refine lv_lstore_n (lv' := [(3, .long (m_place x0 x1)), (0, .ref (a 0)), (1, .int x0), (2, .int (bI x1))]) hx hb dX10_with_19 rfl hl (by decide) rfl (fun ls hl => ?_)
    refine lv_lload_n hx hb dX10_with_20 rfl (lv_at hl 0 rfl) ?_
    refine lv_lconst (v := 0) hx hb dX10_with_21 (by decide) ?_
    refine W.lcmp hx hb dX10_with_22 ?_
    refine lv_if_eq (tgt := 41) hx hb dX10_with_23 (by decide) (fun c_2 => ?_) (fun c_2 => ?_)
    · replace c_2 := (lg_cmp_eq _ _).mp c_2
      refine lv_aload_n hx hb dX10_with_41 rfl (lv_at hl 1 rfl) ?_
      refine lv_ldc (v := (-100003)) hx hb hown hw0 dX10_with_42 ?_
      refine kM_i (As := [.int (-100003)]) (rest := []) (q0 := 0) ⟨hx, hb, hml, hown, hts⟩ (c_X10_finding l D cy a _ (fun _ => 0) (fun _ => 0) (fun _ _ => 0) (fun _ _ => 0) (-100003) ) (cwV 1 hts gX10_with_X10_finding rfl rfl rfl (by decide +kernel) ⟨Nat.le_of_ble_eq_true rfl, Nat.le_of_ble_eq_true rfl⟩) hK hN hP hD hS hA rfl rfl rfl hl.1 rfl (Nat.le_of_ble_eq_true rfl) dX10_with_44 ⟨Nat.le_of_ble_eq_true rfl, Nat.le_of_ble_eq_true rfl⟩ (fun r u H locs hw hP hD hS => ?_)
      obtain ⟨rfl, rfl⟩ := hw
      have hP : va_P D vwCl (MW cy a (fun _ => 0) (va_up (fun _ => 0) 13 (0 + 1)) (fun _ _ => 0) (fun _ _ => 0)) H := hP
      have hD : va_D A (MW cy a (fun _ => 0) (va_up (fun _ => 0) 13 (0 + 1)) (fun _ _ => 0) (fun _ _ => 0)) := hD
      exact qret_i hx hb hr hlocks (by simp [a_fld, c_1]) hS dX10_with_47
    · replace c_2 := fun z => c_2 ((lg_cmp_eq _ _).mpr z)
      refine lv_lload_n hx hb dX10_with_26 rfl (lv_at hl 0 rfl) ?_
      refine lv_aload_n hx hb dX10_with_27 rfl (lv_at hl 1 rfl) ?_
      refine va_get (D := D) (ci := 9) (v := .long 0) (C := RX10) (T := TX10) (N := 30) hx hb hts hi10 hown hK hP 0 rfl rfl 0 (by decide) hw1 (fun _ h9 => h9) rfl dX10_with_28 ?_
      refine lv_ldc2 (v := (-1)) hx hb hown hw2 dX10_with_31 ?_
      refine lv_lxor hx hb dX10_with_34 ?_
      refine wtop_l (y := (-1)) (by decide) ?_
      refine lv_land hx hb dX10_with_35 ?_
      refine lv_lconst (v := 0) hx hb dX10_with_36 (by decide) ?_
      refine W.lcmp hx hb dX10_with_37 ?_
      refine lv_if_eq (tgt := 48) hx hb dX10_with_38 (by decide) (fun c_3 => absurd c_3 (fun z => c_2 (by have h9 := (lg_cmp_eq _ _).mp z; rw [l_and1] at h9; exact h9))) (fun c_3 => ?_)
      refine lv_aload_n hx hb dX10_with_41 rfl (lv_at hl 1 rfl) ?_
      refine lv_ldc (v := (-100003)) hx hb hown hw0 dX10_with_42 ?_
      refine kM_i (As := [.int (-100003)]) (rest := []) (q0 := 0) ⟨hx, hb, hml, hown, hts⟩ (c_X10_finding l D cy a _ (fun _ => 0) (fun _ => 0) (fun _ _ => 0) (fun _ _ => 0) (-100003) ) (cwV 1 hts gX10_with_X10_finding rfl rfl rfl (by decide +kernel) ⟨Nat.le_of_ble_eq_true rfl, Nat.le_of_ble_eq_true rfl⟩) hK hN hP hD hS hA rfl rfl rfl hl.1 rfl (Nat.le_of_ble_eq_true rfl) dX10_with_44 ⟨Nat.le_of_ble_eq_true rfl, Nat.le_of_ble_eq_true rfl⟩ (fun r u H locs hw hP hD hS => ?_)
      obtain ⟨rfl, rfl⟩ := hw
      have hP : va_P D vwCl (MW cy a (fun _ => 0) (va_up (fun _ => 0) 13 (0 + 1)) (fun _ _ => 0) (fun _ _ => 0)) H := hP
      have hD : va_D A (MW cy a (fun _ => 0) (va_up (fun _ => 0) 13 (0 + 1)) (fun _ _ => 0) (fun _ _ => 0)) := hD
      exact qret_i hx hb hr hlocks (by simp [a_fld, c_1]) hS dX10_with_47
  · replace c_1 := bI_f c_1
    refine lv_aload_n hx hb dX10_with_7 rfl (lv_at hl 0 rfl) ?_
    refine lv_ldc (v := (-100001)) hx hb hown hw3 dX10_with_8 ?_
    refine kM_i (As := [.int (-100001)]) (rest := []) (q0 := 0) ⟨hx, hb, hml, hown, hts⟩ (c_X10_finding l D cy a _ (fun _ => 0) (fun _ => 0) (fun _ _ => 0) (fun _ _ => 0) (-100001) ) (cwV 1 hts gX10_with_X10_finding rfl rfl rfl (by decide +kernel) ⟨Nat.le_of_ble_eq_true rfl, Nat.le_of_ble_eq_true rfl⟩) hK hN hP hD hS hA rfl rfl rfl hl.1 rfl (Nat.le_of_ble_eq_true rfl) dX10_with_10 ⟨Nat.le_of_ble_eq_true rfl, Nat.le_of_ble_eq_true rfl⟩ (fun r u H locs hw hP hD hS => ?_)
    obtain ⟨rfl, rfl⟩ := hw
    have hP : va_P D vwCl (MW cy a (fun _ => 0) (va_up (fun _ => 0) 13 (0 + 1)) (fun _ _ => 0) (fun _ _ => 0)) H := hP
    have hD : va_D A (MW cy a (fun _ => 0) (va_up (fun _ => 0) 13 (0 + 1)) (fun _ _ => 0) (fun _ _ => 0)) := hD
    exact qret_i hx hb hr hlocks (by simp [a_fld, c_1]) hS dX10_with_13
theorem dX10_stone_0 : decode cX10_stone 0 = .ok (.iload_n 1, 1) := by decide +kernel
theorem dX10_stone_1 : decode cX10_stone 1 = .ok (.iconst 0, 1) := by decide +kernel
theorem dX10_stone_2 : decode cX10_stone 2 = .ok (.iconst 3, 1) := by decide +kernel
set_option maxRecDepth 20000 in
theorem ggX10_stone_X10_within : GoodIn wsX10_stone wsX10_within := goodIn_r _ [13] (by decide +kernel) (by decide +kernel)
set_option maxRecDepth 20000 in
theorem gX10_stone_X10_within : GoodIn wsX10_stone (va_wsS RX10 70 yX10_within wsX10_within) := goodIn_app (goodIn_of _ (by decide +kernel)) ggX10_stone_X10_within
theorem dX10_stone_3 : decode cX10_stone 3 = .ok (.invokestatic 70, 3) := by decide +kernel
theorem dX10_stone_6 : decode cX10_stone 6 = .ok (.ifCond .eq 38, 3) := by decide +kernel
theorem dX10_stone_44 : decode cX10_stone 44 = .ok (.iconst 0, 1) := by decide +kernel
theorem dX10_stone_45 : decode cX10_stone 45 = .ok (.istore 5, 2) := by decide +kernel
theorem dX10_stone_47 : decode cX10_stone 47 = .ok (.iload 5, 2) := by decide +kernel
theorem dX10_stone_49 : decode cX10_stone 49 = .ok (.ifCond .ne 10, 3) := by decide +kernel
theorem dX10_stone_52 : decode cX10_stone 52 = .ok (.aload_n 0, 1) := by decide +kernel
theorem dX10_stone_53 : decode cX10_stone 53 = .ok (.ldc 141, 2) := by decide +kernel
set_option maxRecDepth 20000 in
theorem ggX10_stone_X10_finding : GoodIn wsX10_stone wsX10_finding := goodIn_r _ [20, 21, 68, 69, 70, 71, 72, 73, 74, 75, 76, 77, 78, 79, 80, 81, 82, 83, 84, 85, 86, 87, 88, 89, 90, 91, 92, 93, 94, 95, 96, 97] (by decide +kernel) (by decide +kernel)
set_option maxRecDepth 20000 in
theorem gX10_stone_X10_finding : GoodIn wsX10_stone (wsV RX10 99 RX10 yX10_finding wsX10_finding) := goodIn_app (goodIn_of _ (by decide +kernel)) ggX10_stone_X10_finding
theorem dX10_stone_55 : decode cX10_stone 55 = .ok (.invokevirtual 99, 3) := by decide +kernel
theorem dX10_stone_58 : decode cX10_stone 58 = .ok (.ireturn, 1) := by decide +kernel
theorem dX10_stone_9 : decode cX10_stone 9 = .ok (.iload_n 2, 1) := by decide +kernel
set_option maxRecDepth 20000 in
theorem ggX10_stone_X10_isField : GoodIn wsX10_stone wsX10_isField := goodIn_r _ [16, 10, 11, 12, 13] (by decide +kernel) (by decide +kernel)
set_option maxRecDepth 20000 in
theorem gX10_stone_X10_isField : GoodIn wsX10_stone (va_wsS RX10 147 yX10_isField wsX10_isField) := goodIn_app (goodIn_of _ (by decide +kernel)) ggX10_stone_X10_isField
theorem dX10_stone_10 : decode cX10_stone 10 = .ok (.invokestatic 147, 3) := by decide +kernel
theorem dX10_stone_13 : decode cX10_stone 13 = .ok (.ifCond .eq 31, 3) := by decide +kernel
theorem dX10_stone_16 : decode cX10_stone 16 = .ok (.iload_n 1, 1) := by decide +kernel
theorem dX10_stone_17 : decode cX10_stone 17 = .ok (.iconst 2, 1) := by decide +kernel
theorem dX10_stone_18 : decode cX10_stone 18 = .ok (.if_icmp .ne 17, 3) := by decide +kernel
theorem dX10_stone_35 : decode cX10_stone 35 = .ok (.iload 4, 2) := by decide +kernel
theorem dX10_stone_37 : decode cX10_stone 37 = .ok (.ifCond .ne 7, 3) := by decide +kernel
theorem dX10_stone_40 : decode cX10_stone 40 = .ok (.iconst 1, 1) := by decide +kernel
theorem dX10_stone_41 : decode cX10_stone 41 = .ok (.goto 4, 3) := by decide +kernel
theorem dX10_stone_59 : decode cX10_stone 59 = .ok (.iload_n 2, 1) := by decide +kernel
theorem dX10_stone_60 : decode cX10_stone 60 = .ok (.iload_n 3, 1) := by decide +kernel
set_option maxRecDepth 20000 in
theorem ggX10_stone_X10_place : GoodIn wsX10_stone wsX10_place := goodIn_r _ [24, 25] (by decide +kernel) (by decide +kernel)
set_option maxRecDepth 20000 in
theorem gX10_stone_X10_place : GoodIn wsX10_stone (va_wsS RX10 122 yX10_place wsX10_place) := goodIn_app (goodIn_of _ (by decide +kernel)) ggX10_stone_X10_place
theorem dX10_stone_61 : decode cX10_stone 61 = .ok (.invokestatic 122, 3) := by decide +kernel
theorem dX10_stone_64 : decode cX10_stone 64 = .ok (.lstore 6, 2) := by decide +kernel
theorem dX10_stone_66 : decode cX10_stone 66 = .ok (.lload 6, 2) := by decide +kernel
theorem dX10_stone_68 : decode cX10_stone 68 = .ok (.lconst 0, 1) := by decide +kernel
theorem dX10_stone_69 : decode cX10_stone 69 = .ok (.lcmp, 1) := by decide +kernel
theorem dX10_stone_70 : decode cX10_stone 70 = .ok (.ifCond .eq 19, 3) := by decide +kernel
theorem dX10_stone_89 : decode cX10_stone 89 = .ok (.aload_n 0, 1) := by decide +kernel
theorem dX10_stone_90 : decode cX10_stone 90 = .ok (.ldc 176, 2) := by decide +kernel
theorem dX10_stone_92 : decode cX10_stone 92 = .ok (.invokevirtual 99, 3) := by decide +kernel
theorem dX10_stone_95 : decode cX10_stone 95 = .ok (.ireturn, 1) := by decide +kernel
theorem dX10_stone_73 : decode cX10_stone 73 = .ok (.lload 6, 2) := by decide +kernel
theorem dX10_stone_75 : decode cX10_stone 75 = .ok (.aload_n 0, 1) := by decide +kernel
theorem dX10_stone_76 : decode cX10_stone 76 = .ok (.getfield 81, 3) := by decide +kernel
theorem dX10_stone_79 : decode cX10_stone 79 = .ok (.ldc2_w 126, 3) := by decide +kernel
theorem dX10_stone_82 : decode cX10_stone 82 = .ok (.lxor, 1) := by decide +kernel
theorem dX10_stone_83 : decode cX10_stone 83 = .ok (.land, 1) := by decide +kernel
theorem dX10_stone_84 : decode cX10_stone 84 = .ok (.lconst 0, 1) := by decide +kernel
theorem dX10_stone_85 : decode cX10_stone 85 = .ok (.lcmp, 1) := by decide +kernel
theorem dX10_stone_86 : decode cX10_stone 86 = .ok (.ifCond .eq 10, 3) := by decide +kernel
theorem dX10_stone_21 : decode cX10_stone 21 = .ok (.iload 4, 2) := by decide +kernel
theorem dX10_stone_23 : decode cX10_stone 23 = .ok (.iconst 1, 1) := by decide +kernel
theorem dX10_stone_24 : decode cX10_stone 24 = .ok (.bipush 99, 2) := by decide +kernel
theorem dX10_stone_26 : decode cX10_stone 26 = .ok (.invokestatic 70, 3) := by decide +kernel
theorem dX10_stone_29 : decode cX10_stone 29 = .ok (.ifCond .eq 15, 3) := by decide +kernel
theorem dX10_stone_32 : decode cX10_stone 32 = .ok (.goto 8, 3) := by decide +kernel
set_option maxRecDepth 20000 in
theorem ihX10_stone_10 : ∀ w ∈ u_ws RX10 TX10 30, w ∈ wsX10_stone := by decide +kernel
set_option maxHeartbeats 4000000 in
set_option maxRecDepth 100000 in
theorem mp_X10_stone (l : Launch) (D : va_G) (cy : Nat → ClassId) (a : Nat → Nat) (sz : Nat) (x0 : Int32) (x1 : Int32) (x2 : Bool) (x3 : Int32) : Met l yX10_stone wsX10_stone ({ frames := 2, cells := 0, slots := 0, locals := 42 }) (va_Pc [.ref (a 0), .int x0, .int x1, .int (bI x2), .int x3] (PW D cy sz (MW cy a (fun _ => 0) (fun _ => 0) (fun _ _ => 0) (fun _ _ => 0)))) (va_Qi (fun r (_ : Unit) => r = a_stone x0 x1 x2 x3) (fun _ _ => True) (va_A (MW cy a (fun _ => 0) (fun _ => 0) (fun _ _ => 0) (fun _ _ => 0)) sz)) 0 0 (va_A (MW cy a (fun _ => 0) (fun _ => 0) (fun _ _ => 0) (fun _ _ => 0)) sz) := by
  refine Met.ofW (cc := cX10_stone) (maxL := 10) (ret := (some .int)) (by decide) rfl ?_
  intro p e s m args below meth c s₁ B hml hv
  obtain ⟨rfl, rfl, hP, hK, hN, hD0⟩ := hv
  have hx := B.exec
  have hb := B.bytes
  have hr := B.returns
  have hts := atoms_spec (ws := wsX10_stone) B.pre
  have hown : s.vm.findClass RX10 = some m.cls := findClass_of_methodNamed B.named
  have hlocks := B.notSynchronized
  have hw0 := hts (.constant RX10 141 (-100001)) (by decide +kernel)
  have hw1 := hts (.constant RX10 176 (-100003)) (by decide +kernel)
  have hw2 := hts (.fieldLink RX10 81 "ParquetLayerModel" "floor" "J") (by decide +kernel)
  have hw3 := hts (.constantLong RX10 126 (-1)) (by decide +kernel)
  have hi10 := ihX10_stone_10
  have hD := hD0.self (sz := s.heap.size)
  generalize hAe : va_A (MW cy a (fun _ => 0) (fun _ => 0) (fun _ _ => 0) (fun _ _ => 0)) s.heap.size = A at hD ⊢
  have hA : ∀ q : Nat, s.heap.size ≤ q → A q := fun q h => by rw [← hAe]; exact Or.inr h
  have hS : va_S A s.heap s.heap [] := va_S.rf
  have hl := lv_entry ([.ref (a 0), .int x0, .int x1, .int (bI x2), .int x3]) (n := 10) (Nat.le_of_ble_eq_true rfl)
  rw [lg_entry_eq]
  generalize (lg_sl ([.ref (a 0), .int x0, .int x1, .int (bI x2), .int x3]) ++ List.replicate (10 - (lg_sl ([.ref (a 0), .int x0, .int x1, .int (bI x2), .int x3])).length) Slot.unset).toArray = ls at hl ⊢
  have hl : lv_has ls 10 [(0, .ref (a 0)), (1, .int x0), (2, .int x1), (3, .int (bI x2)), (4, .int x3)] := hl
  refine lv_iload_n hx hb dX10_stone_0 rfl (lv_at hl 1 rfl) ?_
  refine lv_iconst (v := 0) hx hb dX10_stone_1 (by decide) ?_
  refine lv_iconst (v := 3) hx hb dX10_stone_2 (by decide) ?_
  refine kS_i (As := [.int x0, .int 0, .int 3]) (rest := []) ⟨hx, hb, hml, hown, hts⟩ (c_X10_within l x0 0 3) (va_cwS 3 hts gX10_stone_X10_within rfl rfl rfl (by decide +kernel) ⟨Nat.le_of_ble_eq_true rfl, Nat.le_of_ble_eq_true rfl⟩) rfl hl.1 rfl (Nat.le_of_ble_eq_true rfl) dX10_stone_3 ⟨Nat.le_of_ble_eq_true rfl, Nat.le_of_ble_eq_true rfl⟩ ?_
  refine lv_if_eq (tgt := 44) hx hb dX10_stone_6 (by decide) (fun c_1 => ?_) (fun c_1 => ?_)
  · replace c_1 := bI_f c_1
    refine lv_iconst (v := 0) hx hb dX10_stone_44 (by decide) ?_
    refine lv_istore (lv' := [(5, .int 0), (0, .ref (a 0)), (1, .int x0), (2, .int x1), (3, .int (bI x2)), (4, .int x3)]) hx hb dX10_stone_45 hl (by decide) rfl (fun ls hl => ?_)
    refine lv_iload hx hb dX10_stone_47 (lv_at hl 0 rfl) ?_
    refine lv_if_ne (tgt := 59) hx hb dX10_stone_49 (by decide) (fun c_2 => absurd (by decide) c_2) (fun c_2 => ?_)
    refine lv_aload_n hx hb dX10_stone_52 rfl (lv_at hl 1 rfl) ?_
    refine lv_ldc (v := (-100001)) hx hb hown hw0 dX10_stone_53 ?_
    refine kM_i (As := [.int (-100001)]) (rest := []) (q0 := 0) ⟨hx, hb, hml, hown, hts⟩ (c_X10_finding l D cy a _ (fun _ => 0) (fun _ => 0) (fun _ _ => 0) (fun _ _ => 0) (-100001) ) (cwV 1 hts gX10_stone_X10_finding rfl rfl rfl (by decide +kernel) ⟨Nat.le_of_ble_eq_true rfl, Nat.le_of_ble_eq_true rfl⟩) hK hN hP hD hS hA rfl rfl rfl hl.1 rfl (Nat.le_of_ble_eq_true rfl) dX10_stone_55 ⟨Nat.le_of_ble_eq_true rfl, Nat.le_of_ble_eq_true rfl⟩ (fun r u H locs hw hP hD hS => ?_)
    obtain ⟨rfl, rfl⟩ := hw
    have hP : va_P D vwCl (MW cy a (fun _ => 0) (va_up (fun _ => 0) 13 (0 + 1)) (fun _ _ => 0) (fun _ _ => 0)) H := hP
    have hD : va_D A (MW cy a (fun _ => 0) (va_up (fun _ => 0) 13 (0 + 1)) (fun _ _ => 0) (fun _ _ => 0)) := hD
    exact qret_i hx hb hr hlocks (by simp_all [a_stone]) hS dX10_stone_58
  · replace c_1 := bI_t c_1
    refine lv_iload_n hx hb dX10_stone_9 rfl (lv_at hl 2 rfl) ?_
    refine kS_i (As := [.int x1]) (rest := []) ⟨hx, hb, hml, hown, hts⟩ (c_X10_isField l x1) (va_cwS 1 hts gX10_stone_X10_isField rfl rfl rfl (by decide +kernel) ⟨Nat.le_of_ble_eq_true rfl, Nat.le_of_ble_eq_true rfl⟩) rfl hl.1 rfl (Nat.le_of_ble_eq_true rfl) dX10_stone_10 ⟨Nat.le_of_ble_eq_true rfl, Nat.le_of_ble_eq_true rfl⟩ ?_
    refine lv_if_eq (tgt := 44) hx hb dX10_stone_13 (by decide) (fun c_3 => ?_) (fun c_3 => ?_)
    · replace c_3 := bI_f c_3
      refine lv_iconst (v := 0) hx hb dX10_stone_44 (by decide) ?_
      refine lv_istore (lv' := [(5, .int 0), (0, .ref (a 0)), (1, .int x0), (2, .int x1), (3, .int (bI x2)), (4, .int x3)]) hx hb dX10_stone_45 hl (by decide) rfl (fun ls hl => ?_)
      refine lv_iload hx hb dX10_stone_47 (lv_at hl 0 rfl) ?_
      refine lv_if_ne (tgt := 59) hx hb dX10_stone_49 (by decide) (fun c_4 => absurd (by decide) c_4) (fun c_4 => ?_)
      refine lv_aload_n hx hb dX10_stone_52 rfl (lv_at hl 1 rfl) ?_
      refine lv_ldc (v := (-100001)) hx hb hown hw0 dX10_stone_53 ?_
      refine kM_i (As := [.int (-100001)]) (rest := []) (q0 := 0) ⟨hx, hb, hml, hown, hts⟩ (c_X10_finding l D cy a _ (fun _ => 0) (fun _ => 0) (fun _ _ => 0) (fun _ _ => 0) (-100001) ) (cwV 1 hts gX10_stone_X10_finding rfl rfl rfl (by decide +kernel) ⟨Nat.le_of_ble_eq_true rfl, Nat.le_of_ble_eq_true rfl⟩) hK hN hP hD hS hA rfl rfl rfl hl.1 rfl (Nat.le_of_ble_eq_true rfl) dX10_stone_55 ⟨Nat.le_of_ble_eq_true rfl, Nat.le_of_ble_eq_true rfl⟩ (fun r u H locs hw hP hD hS => ?_)
      obtain ⟨rfl, rfl⟩ := hw
      have hP : va_P D vwCl (MW cy a (fun _ => 0) (va_up (fun _ => 0) 13 (0 + 1)) (fun _ _ => 0) (fun _ _ => 0)) H := hP
      have hD : va_D A (MW cy a (fun _ => 0) (va_up (fun _ => 0) 13 (0 + 1)) (fun _ _ => 0) (fun _ _ => 0)) := hD
      exact qret_i hx hb hr hlocks (by simp_all [a_stone]) hS dX10_stone_58
    · replace c_3 := bI_t c_3
      refine lv_iload_n hx hb dX10_stone_16 rfl (lv_at hl 1 rfl) ?_
      refine lv_iconst (v := 2) hx hb dX10_stone_17 (by decide) ?_
      refine lv_icmp_ne (tgt := 35) hx hb dX10_stone_18 (by decide) (fun c_5 => ?_) (fun c_5 => ?_)
      · refine lv_iload hx hb dX10_stone_35 (lv_at hl 4 rfl) ?_
        refine lv_if_ne (tgt := 44) hx hb dX10_stone_37 (by decide) (fun c_6 => ?_) (fun c_6 => ?_)
        · refine lv_iconst (v := 0) hx hb dX10_stone_44 (by decide) ?_
          refine lv_istore (lv' := [(5, .int 0), (0, .ref (a 0)), (1, .int x0), (2, .int x1), (3, .int (bI x2)), (4, .int x3)]) hx hb dX10_stone_45 hl (by decide) rfl (fun ls hl => ?_)
          refine lv_iload hx hb dX10_stone_47 (lv_at hl 0 rfl) ?_
          refine lv_if_ne (tgt := 59) hx hb dX10_stone_49 (by decide) (fun c_7 => absurd (by decide) c_7) (fun c_7 => ?_)
          refine lv_aload_n hx hb dX10_stone_52 rfl (lv_at hl 1 rfl) ?_
          refine lv_ldc (v := (-100001)) hx hb hown hw0 dX10_stone_53 ?_
          refine kM_i (As := [.int (-100001)]) (rest := []) (q0 := 0) ⟨hx, hb, hml, hown, hts⟩ (c_X10_finding l D cy a _ (fun _ => 0) (fun _ => 0) (fun _ _ => 0) (fun _ _ => 0) (-100001) ) (cwV 1 hts gX10_stone_X10_finding rfl rfl rfl (by decide +kernel) ⟨Nat.le_of_ble_eq_true rfl, Nat.le_of_ble_eq_true rfl⟩) hK hN hP hD hS hA rfl rfl rfl hl.1 rfl (Nat.le_of_ble_eq_true rfl) dX10_stone_55 ⟨Nat.le_of_ble_eq_true rfl, Nat.le_of_ble_eq_true rfl⟩ (fun r u H locs hw hP hD hS => ?_)
          obtain ⟨rfl, rfl⟩ := hw
          have hP : va_P D vwCl (MW cy a (fun _ => 0) (va_up (fun _ => 0) 13 (0 + 1)) (fun _ _ => 0) (fun _ _ => 0)) H := hP
          have hD : va_D A (MW cy a (fun _ => 0) (va_up (fun _ => 0) 13 (0 + 1)) (fun _ _ => 0) (fun _ _ => 0)) := hD
          exact qret_i hx hb hr hlocks (by simp_all [a_stone]) hS dX10_stone_58
        · refine lv_iconst (v := 1) hx hb dX10_stone_40 (by decide) ?_
          refine lv_goto (tgt := 45) hx hb dX10_stone_41 (by decide) ?_
          refine lv_istore (lv' := [(5, .int 1), (0, .ref (a 0)), (1, .int x0), (2, .int x1), (3, .int (bI x2)), (4, .int x3)]) hx hb dX10_stone_45 hl (by decide) rfl (fun ls hl => ?_)
          refine lv_iload hx hb dX10_stone_47 (lv_at hl 0 rfl) ?_
          refine lv_if_ne (tgt := 59) hx hb dX10_stone_49 (by decide) (fun c_8 => ?_) (fun c_8 => absurd c_8 (by decide))
          refine lv_iload_n hx hb dX10_stone_59 rfl (lv_at hl 3 rfl) ?_
          refine lv_iload_n hx hb dX10_stone_60 rfl (lv_at hl 4 rfl) ?_
          refine kS_l (As := [.int x1, .int (bI x2)]) (rest := []) ⟨hx, hb, hml, hown, hts⟩ (c_X10_place l x1 x2) (va_cwS 2 hts gX10_stone_X10_place rfl rfl rfl (by decide +kernel) ⟨Nat.le_of_ble_eq_true rfl, Nat.le_of_ble_eq_true rfl⟩) rfl hl.1 rfl (Nat.le_of_ble_eq_true rfl) dX10_stone_61 ⟨Nat.le_of_ble_eq_true rfl, Nat.le_of_ble_eq_true rfl⟩ ?_
          refine lv_lstore (lv' := [(6, .long (m_place x1 x2)), (5, .int 1), (0, .ref (a 0)), (1, .int x0), (2, .int x1), (3, .int (bI x2)), (4, .int x3)]) hx hb dX10_stone_64 hl (by decide) rfl (fun ls hl => ?_)
          refine lv_lload hx hb dX10_stone_66 (lv_at hl 0 rfl) ?_
          refine lv_lconst (v := 0) hx hb dX10_stone_68 (by decide) ?_
          refine W.lcmp hx hb dX10_stone_69 ?_
          refine lv_if_eq (tgt := 89) hx hb dX10_stone_70 (by decide) (fun c_9 => ?_) (fun c_9 => ?_)
          · replace c_9 := (lg_cmp_eq _ _).mp c_9
            refine lv_aload_n hx hb dX10_stone_89 rfl (lv_at hl 2 rfl) ?_
            refine lv_ldc (v := (-100003)) hx hb hown hw1 dX10_stone_90 ?_
            refine kM_i (As := [.int (-100003)]) (rest := []) (q0 := 0) ⟨hx, hb, hml, hown, hts⟩ (c_X10_finding l D cy a _ (fun _ => 0) (fun _ => 0) (fun _ _ => 0) (fun _ _ => 0) (-100003) ) (cwV 1 hts gX10_stone_X10_finding rfl rfl rfl (by decide +kernel) ⟨Nat.le_of_ble_eq_true rfl, Nat.le_of_ble_eq_true rfl⟩) hK hN hP hD hS hA rfl rfl rfl hl.1 rfl (Nat.le_of_ble_eq_true rfl) dX10_stone_92 ⟨Nat.le_of_ble_eq_true rfl, Nat.le_of_ble_eq_true rfl⟩ (fun r u H locs hw hP hD hS => ?_)
            obtain ⟨rfl, rfl⟩ := hw
            have hP : va_P D vwCl (MW cy a (fun _ => 0) (va_up (fun _ => 0) 13 (0 + 1)) (fun _ _ => 0) (fun _ _ => 0)) H := hP
            have hD : va_D A (MW cy a (fun _ => 0) (va_up (fun _ => 0) 13 (0 + 1)) (fun _ _ => 0) (fun _ _ => 0)) := hD
            exact qret_i hx hb hr hlocks (by simp_all [a_stone]) hS dX10_stone_95
          · replace c_9 := fun z => c_9 ((lg_cmp_eq _ _).mpr z)
            refine lv_lload hx hb dX10_stone_73 (lv_at hl 0 rfl) ?_
            refine lv_aload_n hx hb dX10_stone_75 rfl (lv_at hl 2 rfl) ?_
            refine va_get (D := D) (ci := 9) (v := .long 0) (C := RX10) (T := TX10) (N := 30) hx hb hts hi10 hown hK hP 0 rfl rfl 0 (by decide) hw2 (fun _ h9 => h9) rfl dX10_stone_76 ?_
            refine lv_ldc2 (v := (-1)) hx hb hown hw3 dX10_stone_79 ?_
            refine lv_lxor hx hb dX10_stone_82 ?_
            refine wtop_l (y := (-1)) (by decide) ?_
            refine lv_land hx hb dX10_stone_83 ?_
            refine lv_lconst (v := 0) hx hb dX10_stone_84 (by decide) ?_
            refine W.lcmp hx hb dX10_stone_85 ?_
            refine lv_if_eq (tgt := 96) hx hb dX10_stone_86 (by decide) (fun c_10 => absurd c_10 (fun z => c_9 (by have h9 := (lg_cmp_eq _ _).mp z; rw [l_and1] at h9; exact h9))) (fun c_10 => ?_)
            refine lv_aload_n hx hb dX10_stone_89 rfl (lv_at hl 2 rfl) ?_
            refine lv_ldc (v := (-100003)) hx hb hown hw1 dX10_stone_90 ?_
            refine kM_i (As := [.int (-100003)]) (rest := []) (q0 := 0) ⟨hx, hb, hml, hown, hts⟩ (c_X10_finding l D cy a _ (fun _ => 0) (fun _ => 0) (fun _ _ => 0) (fun _ _ => 0) (-100003) ) (cwV 1 hts gX10_stone_X10_finding rfl rfl rfl (by decide +kernel) ⟨Nat.le_of_ble_eq_true rfl, Nat.le_of_ble_eq_true rfl⟩) hK hN hP hD hS hA rfl rfl rfl hl.1 rfl (Nat.le_of_ble_eq_true rfl) dX10_stone_92 ⟨Nat.le_of_ble_eq_true rfl, Nat.le_of_ble_eq_true rfl⟩ (fun r u H locs hw hP hD hS => ?_)
            obtain ⟨rfl, rfl⟩ := hw
            have hP : va_P D vwCl (MW cy a (fun _ => 0) (va_up (fun _ => 0) 13 (0 + 1)) (fun _ _ => 0) (fun _ _ => 0)) H := hP
            have hD : va_D A (MW cy a (fun _ => 0) (va_up (fun _ => 0) 13 (0 + 1)) (fun _ _ => 0) (fun _ _ => 0)) := hD
            exact qret_i hx hb hr hlocks (by simp_all [a_stone]) hS dX10_stone_95
      · refine lv_iload hx hb dX10_stone_21 (lv_at hl 4 rfl) ?_
        refine lv_iconst (v := 1) hx hb dX10_stone_23 (by decide) ?_
        refine lv_bipush (v := 99) hx hb dX10_stone_24 (by decide) ?_
        refine kS_i (As := [.int x3, .int 1, .int 99]) (rest := []) ⟨hx, hb, hml, hown, hts⟩ (c_X10_within l x3 1 99) (va_cwS 3 hts gX10_stone_X10_within rfl rfl rfl (by decide +kernel) ⟨Nat.le_of_ble_eq_true rfl, Nat.le_of_ble_eq_true rfl⟩) rfl hl.1 rfl (Nat.le_of_ble_eq_true rfl) dX10_stone_26 ⟨Nat.le_of_ble_eq_true rfl, Nat.le_of_ble_eq_true rfl⟩ ?_
        refine lv_if_eq (tgt := 44) hx hb dX10_stone_29 (by decide) (fun c_11 => ?_) (fun c_11 => ?_)
        · replace c_11 := bI_f c_11
          refine lv_iconst (v := 0) hx hb dX10_stone_44 (by decide) ?_
          refine lv_istore (lv' := [(5, .int 0), (0, .ref (a 0)), (1, .int x0), (2, .int x1), (3, .int (bI x2)), (4, .int x3)]) hx hb dX10_stone_45 hl (by decide) rfl (fun ls hl => ?_)
          refine lv_iload hx hb dX10_stone_47 (lv_at hl 0 rfl) ?_
          refine lv_if_ne (tgt := 59) hx hb dX10_stone_49 (by decide) (fun c_12 => absurd (by decide) c_12) (fun c_12 => ?_)
          refine lv_aload_n hx hb dX10_stone_52 rfl (lv_at hl 1 rfl) ?_
          refine lv_ldc (v := (-100001)) hx hb hown hw0 dX10_stone_53 ?_
          refine kM_i (As := [.int (-100001)]) (rest := []) (q0 := 0) ⟨hx, hb, hml, hown, hts⟩ (c_X10_finding l D cy a _ (fun _ => 0) (fun _ => 0) (fun _ _ => 0) (fun _ _ => 0) (-100001) ) (cwV 1 hts gX10_stone_X10_finding rfl rfl rfl (by decide +kernel) ⟨Nat.le_of_ble_eq_true rfl, Nat.le_of_ble_eq_true rfl⟩) hK hN hP hD hS hA rfl rfl rfl hl.1 rfl (Nat.le_of_ble_eq_true rfl) dX10_stone_55 ⟨Nat.le_of_ble_eq_true rfl, Nat.le_of_ble_eq_true rfl⟩ (fun r u H locs hw hP hD hS => ?_)
          obtain ⟨rfl, rfl⟩ := hw
          have hP : va_P D vwCl (MW cy a (fun _ => 0) (va_up (fun _ => 0) 13 (0 + 1)) (fun _ _ => 0) (fun _ _ => 0)) H := hP
          have hD : va_D A (MW cy a (fun _ => 0) (va_up (fun _ => 0) 13 (0 + 1)) (fun _ _ => 0) (fun _ _ => 0)) := hD
          exact qret_i hx hb hr hlocks (by simp_all [a_stone]) hS dX10_stone_58
        · replace c_11 := bI_t c_11
          refine lv_goto (tgt := 40) hx hb dX10_stone_32 (by decide) ?_
          refine lv_iconst (v := 1) hx hb dX10_stone_40 (by decide) ?_
          refine lv_goto (tgt := 45) hx hb dX10_stone_41 (by decide) ?_
          refine lv_istore (lv' := [(5, .int 1), (0, .ref (a 0)), (1, .int x0), (2, .int x1), (3, .int (bI x2)), (4, .int x3)]) hx hb dX10_stone_45 hl (by decide) rfl (fun ls hl => ?_)
          refine lv_iload hx hb dX10_stone_47 (lv_at hl 0 rfl) ?_
          refine lv_if_ne (tgt := 59) hx hb dX10_stone_49 (by decide) (fun c_13 => ?_) (fun c_13 => absurd c_13 (by decide))
          refine lv_iload_n hx hb dX10_stone_59 rfl (lv_at hl 3 rfl) ?_
          refine lv_iload_n hx hb dX10_stone_60 rfl (lv_at hl 4 rfl) ?_
          refine kS_l (As := [.int x1, .int (bI x2)]) (rest := []) ⟨hx, hb, hml, hown, hts⟩ (c_X10_place l x1 x2) (va_cwS 2 hts gX10_stone_X10_place rfl rfl rfl (by decide +kernel) ⟨Nat.le_of_ble_eq_true rfl, Nat.le_of_ble_eq_true rfl⟩) rfl hl.1 rfl (Nat.le_of_ble_eq_true rfl) dX10_stone_61 ⟨Nat.le_of_ble_eq_true rfl, Nat.le_of_ble_eq_true rfl⟩ ?_
          refine lv_lstore (lv' := [(6, .long (m_place x1 x2)), (5, .int 1), (0, .ref (a 0)), (1, .int x0), (2, .int x1), (3, .int (bI x2)), (4, .int x3)]) hx hb dX10_stone_64 hl (by decide) rfl (fun ls hl => ?_)
          refine lv_lload hx hb dX10_stone_66 (lv_at hl 0 rfl) ?_
          refine lv_lconst (v := 0) hx hb dX10_stone_68 (by decide) ?_
          refine W.lcmp hx hb dX10_stone_69 ?_
          refine lv_if_eq (tgt := 89) hx hb dX10_stone_70 (by decide) (fun c_14 => ?_) (fun c_14 => ?_)
          · replace c_14 := (lg_cmp_eq _ _).mp c_14
            refine lv_aload_n hx hb dX10_stone_89 rfl (lv_at hl 2 rfl) ?_
            refine lv_ldc (v := (-100003)) hx hb hown hw1 dX10_stone_90 ?_
            refine kM_i (As := [.int (-100003)]) (rest := []) (q0 := 0) ⟨hx, hb, hml, hown, hts⟩ (c_X10_finding l D cy a _ (fun _ => 0) (fun _ => 0) (fun _ _ => 0) (fun _ _ => 0) (-100003) ) (cwV 1 hts gX10_stone_X10_finding rfl rfl rfl (by decide +kernel) ⟨Nat.le_of_ble_eq_true rfl, Nat.le_of_ble_eq_true rfl⟩) hK hN hP hD hS hA rfl rfl rfl hl.1 rfl (Nat.le_of_ble_eq_true rfl) dX10_stone_92 ⟨Nat.le_of_ble_eq_true rfl, Nat.le_of_ble_eq_true rfl⟩ (fun r u H locs hw hP hD hS => ?_)
            obtain ⟨rfl, rfl⟩ := hw
            have hP : va_P D vwCl (MW cy a (fun _ => 0) (va_up (fun _ => 0) 13 (0 + 1)) (fun _ _ => 0) (fun _ _ => 0)) H := hP
            have hD : va_D A (MW cy a (fun _ => 0) (va_up (fun _ => 0) 13 (0 + 1)) (fun _ _ => 0) (fun _ _ => 0)) := hD
            exact qret_i hx hb hr hlocks (by simp_all [a_stone]) hS dX10_stone_95
          · replace c_14 := fun z => c_14 ((lg_cmp_eq _ _).mpr z)
            refine lv_lload hx hb dX10_stone_73 (lv_at hl 0 rfl) ?_
            refine lv_aload_n hx hb dX10_stone_75 rfl (lv_at hl 2 rfl) ?_
            refine va_get (D := D) (ci := 9) (v := .long 0) (C := RX10) (T := TX10) (N := 30) hx hb hts hi10 hown hK hP 0 rfl rfl 0 (by decide) hw2 (fun _ h9 => h9) rfl dX10_stone_76 ?_
            refine lv_ldc2 (v := (-1)) hx hb hown hw3 dX10_stone_79 ?_
            refine lv_lxor hx hb dX10_stone_82 ?_
            refine wtop_l (y := (-1)) (by decide) ?_
            refine lv_land hx hb dX10_stone_83 ?_
            refine lv_lconst (v := 0) hx hb dX10_stone_84 (by decide) ?_
            refine W.lcmp hx hb dX10_stone_85 ?_
            refine lv_if_eq (tgt := 96) hx hb dX10_stone_86 (by decide) (fun c_15 => absurd c_15 (fun z => c_14 (by have h9 := (lg_cmp_eq _ _).mp z; rw [l_and1] at h9; exact h9))) (fun c_15 => ?_)
            refine lv_aload_n hx hb dX10_stone_89 rfl (lv_at hl 2 rfl) ?_
            refine lv_ldc (v := (-100003)) hx hb hown hw1 dX10_stone_90 ?_
            refine kM_i (As := [.int (-100003)]) (rest := []) (q0 := 0) ⟨hx, hb, hml, hown, hts⟩ (c_X10_finding l D cy a _ (fun _ => 0) (fun _ => 0) (fun _ _ => 0) (fun _ _ => 0) (-100003) ) (cwV 1 hts gX10_stone_X10_finding rfl rfl rfl (by decide +kernel) ⟨Nat.le_of_ble_eq_true rfl, Nat.le_of_ble_eq_true rfl⟩) hK hN hP hD hS hA rfl rfl rfl hl.1 rfl (Nat.le_of_ble_eq_true rfl) dX10_stone_92 ⟨Nat.le_of_ble_eq_true rfl, Nat.le_of_ble_eq_true rfl⟩ (fun r u H locs hw hP hD hS => ?_)
            obtain ⟨rfl, rfl⟩ := hw
            have hP : va_P D vwCl (MW cy a (fun _ => 0) (va_up (fun _ => 0) 13 (0 + 1)) (fun _ _ => 0) (fun _ _ => 0)) H := hP
            have hD : va_D A (MW cy a (fun _ => 0) (va_up (fun _ => 0) 13 (0 + 1)) (fun _ _ => 0) (fun _ _ => 0)) := hD
            exact qret_i hx hb hr hlocks (by simp_all [a_stone]) hS dX10_stone_95
theorem dX10_lay_0 : decode cX10_lay 0 = .ok (.iload_n 1, 1) := by decide +kernel
theorem dX10_lay_1 : decode cX10_lay 1 = .ok (.ifCond .lt 11, 3) := by decide +kernel
theorem dX10_lay_12 : decode cX10_lay 12 = .ok (.aload_n 0, 1) := by decide +kernel
theorem dX10_lay_13 : decode cX10_lay 13 = .ok (.ldc 141, 2) := by decide +kernel
set_option maxRecDepth 20000 in
theorem ggX10_lay_X10_finding : GoodIn wsX10_lay wsX10_finding := goodIn_r _ [61, 62, 76, 77, 78, 79, 80, 81, 82, 83, 84, 85, 86, 87, 88, 89, 90, 91, 92, 93, 94, 95, 96, 97, 98, 99, 100, 101, 102, 103, 104, 105] (by decide +kernel) (by decide +kernel)
set_option maxRecDepth 20000 in
theorem gX10_lay_X10_finding : GoodIn wsX10_lay (wsV RX10 99 RX10 yX10_finding wsX10_finding) := goodIn_app (goodIn_of _ (by decide +kernel)) ggX10_lay_X10_finding
theorem dX10_lay_15 : decode cX10_lay 15 = .ok (.invokevirtual 99, 3) := by decide +kernel
theorem dX10_lay_18 : decode cX10_lay 18 = .ok (.ireturn, 1) := by decide +kernel
theorem dX10_lay_4 : decode cX10_lay 4 = .ok (.iload_n 1, 1) := by decide +kernel
theorem dX10_lay_5 : decode cX10_lay 5 = .ok (.aload_n 0, 1) := by decide +kernel
set_option maxRecDepth 20000 in
theorem ggX10_lay_X10_countAll : GoodIn wsX10_lay wsX10_countAll := goodIn_r _ [6, 7, 8, 9, 5, 10, 11, 12, 13, 14, 15, 16, 17, 18, 19, 20, 21, 22, 23, 24, 25, 26, 27, 28, 29, 30, 31, 32, 33, 34, 35, 36, 37, 38, 39, 40, 41, 42, 43, 44, 45, 46, 47, 48, 49, 50, 51, 52, 53, 54, 55, 56, 57, 76, 77, 78, 79, 80, 81, 82, 83, 84, 85, 86, 87, 88, 89, 90, 91, 92, 93, 94, 95, 96, 97, 98, 99, 100, 101, 102, 103, 104, 105] (by decide +kernel) (by decide +kernel)
set_option maxRecDepth 20000 in
theorem gX10_lay_X10_countAll : GoodIn wsX10_lay (wsV RX10 207 RX10 yX10_countAll wsX10_countAll) := goodIn_app (goodIn_of _ (by decide +kernel)) ggX10_lay_X10_countAll
theorem dX10_lay_6 : decode cX10_lay 6 = .ok (.invokevirtual 207, 3) := by decide +kernel
theorem dX10_lay_9 : decode cX10_lay 9 = .ok (.if_icmp .lt 10, 3) := by decide +kernel
theorem dX10_lay_19 : decode cX10_lay 19 = .ok (.aload_n 0, 1) := by decide +kernel
theorem dX10_lay_20 : decode cX10_lay 20 = .ok (.iload_n 1, 1) := by decide +kernel
set_option maxRecDepth 20000 in
theorem ggX10_lay_X10_take : GoodIn wsX10_lay wsX10_take := goodIn_r _ [66, 67, 68, 69, 70, 71, 72, 73, 74, 5, 75, 45, 46, 47, 48, 49, 50, 51, 52, 53, 13, 12, 11, 36, 37, 38, 39, 54, 55, 56, 57, 44, 76, 77, 78, 79, 80, 81, 82, 83, 84, 85, 86, 87, 88, 89, 90, 91, 92, 93, 94, 95, 96, 97, 98, 99, 100, 101, 102, 103, 104, 105] (by decide +kernel) (by decide +kernel)
set_option maxRecDepth 20000 in
theorem gX10_lay_X10_take : GoodIn wsX10_lay (wsV RX10 220 RX10 yX10_take wsX10_take) := goodIn_app (goodIn_of _ (by decide +kernel)) ggX10_lay_X10_take
theorem dX10_lay_21 : decode cX10_lay 21 = .ok (.invokevirtual 220, 3) := by decide +kernel
theorem dX10_lay_24 : decode cX10_lay 24 = .ok (.iconst 1, 1) := by decide +kernel
theorem dX10_lay_25 : decode cX10_lay 25 = .ok (.ireturn, 1) := by decide +kernel
set_option maxHeartbeats 4000000 in
set_option maxRecDepth 100000 in
theorem mp_X10_lay (l : Launch) (D : va_G) (cy : Nat → ClassId) (a : Nat → Nat) (sz : Nat) (x0 : Int32) : Met l yX10_lay wsX10_lay ({ frames := 4, cells := 0, slots := 0, locals := 92 }) (va_Pc [.ref (a 0), .int x0] (PW D cy sz (MW cy a (fun _ => 0) (fun _ => 0) (fun _ _ => 0) (fun _ _ => 0)))) (va_Qi (fun r (_ : Unit) => r = a_lay x0) (fun _ _ => True) (va_A (MW cy a (fun _ => 0) (fun _ => 0) (fun _ _ => 0) (fun _ _ => 0)) sz)) 0 0 (va_A (MW cy a (fun _ => 0) (fun _ => 0) (fun _ _ => 0) (fun _ _ => 0)) sz) := by
  refine Met.ofW (cc := cX10_lay) (maxL := 2) (ret := (some .int)) (by decide) rfl ?_
  intro p e s m args below meth c s₁ B hml hv
  obtain ⟨rfl, rfl, hP, hK, hN, hD0⟩ := hv
  have hx := B.exec
  have hb := B.bytes
  have hr := B.returns
  have hts := atoms_spec (ws := wsX10_lay) B.pre
  have hown : s.vm.findClass RX10 = some m.cls := findClass_of_methodNamed B.named
  have hlocks := B.notSynchronized
  have hw0 := hts (.constant RX10 141 (-100001)) (by decide +kernel)
  have hD := hD0.self (sz := s.heap.size)
  generalize hAe : va_A (MW cy a (fun _ => 0) (fun _ => 0) (fun _ _ => 0) (fun _ _ => 0)) s.heap.size = A at hD ⊢
  have hA : ∀ q : Nat, s.heap.size ≤ q → A q := fun q h => by rw [← hAe]; exact Or.inr h
  have hS : va_S A s.heap s.heap [] := va_S.rf
  have hl := lv_entry ([.ref (a 0), .int x0]) (n := 2) (Nat.le_of_ble_eq_true rfl)
  rw [lg_entry_eq]
  generalize (lg_sl ([.ref (a 0), .int x0]) ++ List.replicate (2 - (lg_sl ([.ref (a 0), .int x0])).length) Slot.unset).toArray = ls at hl ⊢
  have hl : lv_has ls 2 [(0, .ref (a 0)), (1, .int x0)] := hl
  refine lv_iload_n hx hb dX10_lay_0 rfl (lv_at hl 1 rfl) ?_
  refine lv_if_lt (tgt := 12) hx hb dX10_lay_1 (by decide) (fun c_1 => ?_) (fun c_1 => ?_)
  · refine lv_aload_n hx hb dX10_lay_12 rfl (lv_at hl 0 rfl) ?_
    refine lv_ldc (v := (-100001)) hx hb hown hw0 dX10_lay_13 ?_
    refine kM_i (As := [.int (-100001)]) (rest := []) (q0 := 0) ⟨hx, hb, hml, hown, hts⟩ (c_X10_finding l D cy a _ (fun _ => 0) (fun _ => 0) (fun _ _ => 0) (fun _ _ => 0) (-100001) ) (cwV 1 hts gX10_lay_X10_finding rfl rfl rfl (by decide +kernel) ⟨Nat.le_of_ble_eq_true rfl, Nat.le_of_ble_eq_true rfl⟩) hK hN hP hD hS hA rfl rfl rfl hl.1 rfl (Nat.le_of_ble_eq_true rfl) dX10_lay_15 ⟨Nat.le_of_ble_eq_true rfl, Nat.le_of_ble_eq_true rfl⟩ (fun r u H locs hw hP hD hS => ?_)
    obtain ⟨rfl, rfl⟩ := hw
    have hP : va_P D vwCl (MW cy a (fun _ => 0) (va_up (fun _ => 0) 13 (0 + 1)) (fun _ _ => 0) (fun _ _ => 0)) H := hP
    have hD : va_D A (MW cy a (fun _ => 0) (va_up (fun _ => 0) 13 (0 + 1)) (fun _ _ => 0) (fun _ _ => 0)) := hD
    exact qret_i hx hb hr hlocks (by rw [a_lay, if_neg (fun z => absurd (z ▸ c_1) (by decide))]) hS dX10_lay_18
  · refine lv_iload_n hx hb dX10_lay_4 rfl (lv_at hl 1 rfl) ?_
    refine lv_aload_n hx hb dX10_lay_5 rfl (lv_at hl 0 rfl) ?_
    refine kM_i (As := []) (rest := [.int x0]) (q0 := 0) ⟨hx, hb, hml, hown, hts⟩ (hv_X10_countAll l D cy a _   ) (cwV 0 hts gX10_lay_X10_countAll rfl rfl rfl (by decide +kernel) ⟨Nat.le_of_ble_eq_true rfl, Nat.le_of_ble_eq_true rfl⟩) hK hN hP hD hS hA rfl rfl rfl hl.1 rfl (Nat.le_of_ble_eq_true rfl) dX10_lay_6 ⟨Nat.le_of_ble_eq_true rfl, Nat.le_of_ble_eq_true rfl⟩ (fun r u H locs hw hP hD hS => ?_)
    obtain ⟨z_J, z_I, Rh_2, z_RJ⟩ := u
    try dsimp only at hw
    obtain ⟨rfl, rfl, rfl, rfl⟩ := hw
    have hP : va_P D vwCl (MW cy a (fun _ => 0) (fun _ => 0) Rh_2 (fun _ _ => 0)) H := hP
    have hD : va_D A (MW cy a (fun _ => 0) (fun _ => 0) Rh_2 (fun _ _ => 0)) := hD
    refine lv_icmp_lt (tgt := 19) hx hb dX10_lay_9 (by decide) (fun c_3 => ?_) (fun c_3 => ?_)
    · refine lv_aload_n hx hb dX10_lay_19 rfl (lv_at hl 0 rfl) ?_
      refine lv_iload_n hx hb dX10_lay_20 rfl (lv_at hl 1 rfl) ?_
      refine kM_v (As := [.int x0]) (rest := []) (q0 := 0) ⟨hx, hb, hml, hown, hts⟩ (hv_X10_take l D cy a _ Rh_2 x0 ) (cwV 1 hts gX10_lay_X10_take rfl rfl rfl (by decide +kernel) ⟨Nat.le_of_ble_eq_true rfl, Nat.le_of_ble_eq_true rfl⟩) hK hN hP hD hS hA rfl rfl rfl hl.1 rfl (Nat.le_of_ble_eq_true rfl) dX10_lay_21 ⟨Nat.le_of_ble_eq_true rfl, Nat.le_of_ble_eq_true rfl⟩ (fun u H locs hw hP hD hS => ?_)
      obtain ⟨Jh_4, Ih_5, Rh_6, RJh_7⟩ := u
      try dsimp only at hw
      have hP : va_P D vwCl (MW cy a Jh_4 Ih_5 Rh_6 RJh_7) H := hP
      have hD : va_D A (MW cy a Jh_4 Ih_5 Rh_6 RJh_7) := hD
      refine lv_iconst (v := 1) hx hb dX10_lay_24 (by decide) ?_
      exact qret_i hx hb hr hlocks (by rw [a_lay, if_pos (i32_01 c_1 c_3)]) hS dX10_lay_25
    · refine lv_aload_n hx hb dX10_lay_12 rfl (lv_at hl 0 rfl) ?_
      refine lv_ldc (v := (-100001)) hx hb hown hw0 dX10_lay_13 ?_
      refine kM_i (As := [.int (-100001)]) (rest := []) (q0 := 0) ⟨hx, hb, hml, hown, hts⟩ (c_X10_finding l D cy a _ (fun _ => 0) (fun _ => 0) Rh_2 (fun _ _ => 0) (-100001) ) (cwV 1 hts gX10_lay_X10_finding rfl rfl rfl (by decide +kernel) ⟨Nat.le_of_ble_eq_true rfl, Nat.le_of_ble_eq_true rfl⟩) hK hN hP hD hS hA rfl rfl rfl hl.1 rfl (Nat.le_of_ble_eq_true rfl) dX10_lay_15 ⟨Nat.le_of_ble_eq_true rfl, Nat.le_of_ble_eq_true rfl⟩ (fun r u H locs hw hP hD hS => ?_)
      obtain ⟨rfl, rfl⟩ := hw
      have hP : va_P D vwCl (MW cy a (fun _ => 0) (va_up (fun _ => 0) 13 (0 + 1)) Rh_2 (fun _ _ => 0)) H := hP
      have hD : va_D A (MW cy a (fun _ => 0) (va_up (fun _ => 0) 13 (0 + 1)) Rh_2 (fun _ _ => 0)) := hD
      exact qret_i hx hb hr hlocks (by rw [a_lay, if_neg (fun z => c_3 (by rw [z]; decide))]) hS dX10_lay_18
theorem dX10_rank_0 : decode cX10_rank 0 = .ok (.aload_n 0, 1) := by decide +kernel
theorem dX10_rank_1 : decode cX10_rank 1 = .ok (.getfield 88, 3) := by decide +kernel
theorem dX10_rank_4 : decode cX10_rank 4 = .ok (.ifCond .eq 10, 3) := by decide +kernel
theorem dX10_rank_14 : decode cX10_rank 14 = .ok (.aload_n 0, 1) := by decide +kernel
theorem dX10_rank_15 : decode cX10_rank 15 = .ok (.ldc 98, 2) := by decide +kernel
set_option maxRecDepth 20000 in
theorem ggX10_rank_X10_finding : GoodIn wsX10_rank wsX10_finding := goodIn_r _ [72, 73, 74, 75, 76, 77, 78, 79, 80, 81, 82, 83, 84, 85, 86, 87, 88, 89, 90, 91, 92, 93, 94, 95, 96, 97, 98, 99, 100, 101, 102, 103] (by decide +kernel) (by decide +kernel)
set_option maxRecDepth 20000 in
theorem gX10_rank_X10_finding : GoodIn wsX10_rank (wsV RX10 99 RX10 yX10_finding wsX10_finding) := goodIn_app (goodIn_of _ (by decide +kernel)) ggX10_rank_X10_finding
theorem dX10_rank_17 : decode cX10_rank 17 = .ok (.invokevirtual 99, 3) := by decide +kernel
theorem dX10_rank_20 : decode cX10_rank 20 = .ok (.ireturn, 1) := by decide +kernel
set_option maxRecDepth 20000 in
theorem ihX10_rank_10 : ∀ w ∈ u_ws RX10 TX10 30, w ∈ wsX10_rank := by decide +kernel
set_option maxHeartbeats 4000000 in
set_option maxRecDepth 100000 in
theorem mp_X10_rank (l : Launch) (D : va_G) (cy : Nat → ClassId) (a : Nat → Nat) (sz : Nat)  : Met l yX10_rank wsX10_rank ({ frames := 1, cells := 0, slots := 0, locals := 21 }) (va_Pc [.ref (a 0)] (PW D cy sz (MW cy a (fun _ => 0) (fun _ => 0) (fun _ _ => 0) (fun _ _ => 0)))) (va_Qi (fun r (_ : Unit) => r = (-100006)) (fun _ _ => True) (va_A (MW cy a (fun _ => 0) (fun _ => 0) (fun _ _ => 0) (fun _ _ => 0)) sz)) 0 0 (va_A (MW cy a (fun _ => 0) (fun _ => 0) (fun _ _ => 0) (fun _ _ => 0)) sz) := by
  refine Met.ofW (cc := cX10_rank) (maxL := 1) (ret := (some .int)) (by decide) rfl ?_
  intro p e s m args below meth c s₁ B hml hv
  obtain ⟨rfl, rfl, hP, hK, hN, hD0⟩ := hv
  have hx := B.exec
  have hb := B.bytes
  have hr := B.returns
  have hts := atoms_spec (ws := wsX10_rank) B.pre
  have hown : s.vm.findClass RX10 = some m.cls := findClass_of_methodNamed B.named
  have hlocks := B.notSynchronized
  have hw0 := hts (.fieldLink RX10 88 "ParquetLayerModel" "isLaid" "Z") (by decide +kernel)
  have hw1 := hts (.constant RX10 98 (-100006)) (by decide +kernel)
  have hi10 := ihX10_rank_10
  have hD := hD0.self (sz := s.heap.size)
  generalize hAe : va_A (MW cy a (fun _ => 0) (fun _ => 0) (fun _ _ => 0) (fun _ _ => 0)) s.heap.size = A at hD ⊢
  have hA : ∀ q : Nat, s.heap.size ≤ q → A q := fun q h => by rw [← hAe]; exact Or.inr h
  have hS : va_S A s.heap s.heap [] := va_S.rf
  have hl := lv_entry ([.ref (a 0)]) (n := 1) (Nat.le_of_ble_eq_true rfl)
  rw [lg_entry_eq]
  generalize (lg_sl ([.ref (a 0)]) ++ List.replicate (1 - (lg_sl ([.ref (a 0)])).length) Slot.unset).toArray = ls at hl ⊢
  have hl : lv_has ls 1 [(0, .ref (a 0))] := hl
  refine lv_aload_n hx hb dX10_rank_0 rfl (lv_at hl 0 rfl) ?_
  refine va_get (D := D) (ci := 9) (v := .int 0) (C := RX10) (T := TX10) (N := 30) hx hb hts hi10 hown hK hP 0 rfl rfl 3 (by decide) hw0 (fun _ h9 => h9) rfl dX10_rank_1 ?_
  refine lv_if_eq (tgt := 14) hx hb dX10_rank_4 (by decide) (fun c_1 => ?_) (fun c_1 => absurd (by decide) c_1)
  refine lv_aload_n hx hb dX10_rank_14 rfl (lv_at hl 0 rfl) ?_
  refine lv_ldc (v := (-100006)) hx hb hown hw1 dX10_rank_15 ?_
  refine kM_i (As := [.int (-100006)]) (rest := []) (q0 := 0) ⟨hx, hb, hml, hown, hts⟩ (c_X10_finding l D cy a _ (fun _ => 0) (fun _ => 0) (fun _ _ => 0) (fun _ _ => 0) (-100006) ) (cwV 1 hts gX10_rank_X10_finding rfl rfl rfl (by decide +kernel) ⟨Nat.le_of_ble_eq_true rfl, Nat.le_of_ble_eq_true rfl⟩) hK hN hP hD hS hA rfl rfl rfl hl.1 rfl (Nat.le_of_ble_eq_true rfl) dX10_rank_17 ⟨Nat.le_of_ble_eq_true rfl, Nat.le_of_ble_eq_true rfl⟩ (fun r u H locs hw hP hD hS => ?_)
  obtain ⟨rfl, rfl⟩ := hw
  have hP : va_P D vwCl (MW cy a (fun _ => 0) (va_up (fun _ => 0) 13 (0 + 1)) (fun _ _ => 0) (fun _ _ => 0)) H := hP
  have hD : va_D A (MW cy a (fun _ => 0) (va_up (fun _ => 0) 13 (0 + 1)) (fun _ _ => 0) (fun _ _ => 0)) := hD
  exact qret_i hx hb hr hlocks rfl hS dX10_rank_20
theorem dX10_next_0 : decode cX10_next 0 = .ok (.aload_n 0, 1) := by decide +kernel
theorem dX10_next_1 : decode cX10_next 1 = .ok (.getfield 88, 3) := by decide +kernel
theorem dX10_next_4 : decode cX10_next 4 = .ok (.ifCond .ne 10, 3) := by decide +kernel
theorem dX10_next_7 : decode cX10_next 7 = .ok (.aload_n 0, 1) := by decide +kernel
theorem dX10_next_8 : decode cX10_next 8 = .ok (.ldc 98, 2) := by decide +kernel
set_option maxRecDepth 20000 in
theorem ggX10_next_X10_finding : GoodIn wsX10_next wsX10_finding := goodIn_r _ [7, 8, 84, 85, 86, 87, 88, 89, 90, 91, 92, 93, 94, 95, 96, 97, 98, 99, 100, 101, 102, 103, 104, 105, 106, 107, 108, 109, 110, 111, 112, 113] (by decide +kernel) (by decide +kernel)
set_option maxRecDepth 20000 in
theorem gX10_next_X10_finding : GoodIn wsX10_next (wsV RX10 99 RX10 yX10_finding wsX10_finding) := goodIn_app (goodIn_of _ (by decide +kernel)) ggX10_next_X10_finding
theorem dX10_next_10 : decode cX10_next 10 = .ok (.invokevirtual 99, 3) := by decide +kernel
theorem dX10_next_13 : decode cX10_next 13 = .ok (.ireturn, 1) := by decide +kernel
set_option maxRecDepth 20000 in
theorem ihX10_next_10 : ∀ w ∈ u_ws RX10 TX10 30, w ∈ wsX10_next := by decide +kernel
set_option maxHeartbeats 4000000 in
set_option maxRecDepth 100000 in
theorem mp_X10_next (l : Launch) (D : va_G) (cy : Nat → ClassId) (a : Nat → Nat) (sz : Nat)  : Met l yX10_next wsX10_next ({ frames := 1, cells := 0, slots := 0, locals := 21 }) (va_Pc [.ref (a 0)] (PW D cy sz (MW cy a (fun _ => 0) (fun _ => 0) (fun _ _ => 0) (fun _ _ => 0)))) (va_Qi (fun r (_ : Unit) => r = (-100006)) (fun _ _ => True) (va_A (MW cy a (fun _ => 0) (fun _ => 0) (fun _ _ => 0) (fun _ _ => 0)) sz)) 0 0 (va_A (MW cy a (fun _ => 0) (fun _ => 0) (fun _ _ => 0) (fun _ _ => 0)) sz) := by
  refine Met.ofW (cc := cX10_next) (maxL := 2) (ret := (some .int)) (by decide) rfl ?_
  intro p e s m args below meth c s₁ B hml hv
  obtain ⟨rfl, rfl, hP, hK, hN, hD0⟩ := hv
  have hx := B.exec
  have hb := B.bytes
  have hr := B.returns
  have hts := atoms_spec (ws := wsX10_next) B.pre
  have hown : s.vm.findClass RX10 = some m.cls := findClass_of_methodNamed B.named
  have hlocks := B.notSynchronized
  have hw0 := hts (.fieldLink RX10 88 "ParquetLayerModel" "isLaid" "Z") (by decide +kernel)
  have hw1 := hts (.constant RX10 98 (-100006)) (by decide +kernel)
  have hi10 := ihX10_next_10
  have hD := hD0.self (sz := s.heap.size)
  generalize hAe : va_A (MW cy a (fun _ => 0) (fun _ => 0) (fun _ _ => 0) (fun _ _ => 0)) s.heap.size = A at hD ⊢
  have hA : ∀ q : Nat, s.heap.size ≤ q → A q := fun q h => by rw [← hAe]; exact Or.inr h
  have hS : va_S A s.heap s.heap [] := va_S.rf
  have hl := lv_entry ([.ref (a 0)]) (n := 2) (Nat.le_of_ble_eq_true rfl)
  rw [lg_entry_eq]
  generalize (lg_sl ([.ref (a 0)]) ++ List.replicate (2 - (lg_sl ([.ref (a 0)])).length) Slot.unset).toArray = ls at hl ⊢
  have hl : lv_has ls 2 [(0, .ref (a 0))] := hl
  refine lv_aload_n hx hb dX10_next_0 rfl (lv_at hl 0 rfl) ?_
  refine va_get (D := D) (ci := 9) (v := .int 0) (C := RX10) (T := TX10) (N := 30) hx hb hts hi10 hown hK hP 0 rfl rfl 3 (by decide) hw0 (fun _ h9 => h9) rfl dX10_next_1 ?_
  refine lv_if_ne (tgt := 14) hx hb dX10_next_4 (by decide) (fun c_1 => absurd (by decide) c_1) (fun c_1 => ?_)
  refine lv_aload_n hx hb dX10_next_7 rfl (lv_at hl 0 rfl) ?_
  refine lv_ldc (v := (-100006)) hx hb hown hw1 dX10_next_8 ?_
  refine kM_i (As := [.int (-100006)]) (rest := []) (q0 := 0) ⟨hx, hb, hml, hown, hts⟩ (c_X10_finding l D cy a _ (fun _ => 0) (fun _ => 0) (fun _ _ => 0) (fun _ _ => 0) (-100006) ) (cwV 1 hts gX10_next_X10_finding rfl rfl rfl (by decide +kernel) ⟨Nat.le_of_ble_eq_true rfl, Nat.le_of_ble_eq_true rfl⟩) hK hN hP hD hS hA rfl rfl rfl hl.1 rfl (Nat.le_of_ble_eq_true rfl) dX10_next_10 ⟨Nat.le_of_ble_eq_true rfl, Nat.le_of_ble_eq_true rfl⟩ (fun r u H locs hw hP hD hS => ?_)
  obtain ⟨rfl, rfl⟩ := hw
  have hP : va_P D vwCl (MW cy a (fun _ => 0) (va_up (fun _ => 0) 13 (0 + 1)) (fun _ _ => 0) (fun _ _ => 0)) H := hP
  have hD : va_D A (MW cy a (fun _ => 0) (va_up (fun _ => 0) 13 (0 + 1)) (fun _ _ => 0) (fun _ _ => 0)) := hD
  exact qret_i hx hb hr hlocks rfl hS dX10_next_13
theorem dX10_loose_0 : decode cX10_loose 0 = .ok (.aload_n 0, 1) := by decide +kernel
theorem dX10_loose_1 : decode cX10_loose 1 = .ok (.getfield 85, 3) := by decide +kernel
theorem dX10_loose_4 : decode cX10_loose 4 = .ok (.ifCond .ne 10, 3) := by decide +kernel
theorem dX10_loose_7 : decode cX10_loose 7 = .ok (.aload_n 0, 1) := by decide +kernel
theorem dX10_loose_8 : decode cX10_loose 8 = .ok (.ldc 98, 2) := by decide +kernel
set_option maxRecDepth 20000 in
theorem ggX10_loose_X10_finding : GoodIn wsX10_loose wsX10_finding := goodIn_r _ [7, 8, 25, 26, 27, 28, 29, 30, 31, 32, 33, 34, 35, 36, 37, 38, 39, 40, 41, 42, 43, 44, 45, 46, 47, 48, 49, 50, 51, 52, 53, 54] (by decide +kernel) (by decide +kernel)
set_option maxRecDepth 20000 in
theorem gX10_loose_X10_finding : GoodIn wsX10_loose (wsV RX10 99 RX10 yX10_finding wsX10_finding) := goodIn_app (goodIn_of _ (by decide +kernel)) ggX10_loose_X10_finding
theorem dX10_loose_10 : decode cX10_loose 10 = .ok (.invokevirtual 99, 3) := by decide +kernel
theorem dX10_loose_13 : decode cX10_loose 13 = .ok (.ireturn, 1) := by decide +kernel
set_option maxRecDepth 20000 in
theorem ihX10_loose_10 : ∀ w ∈ u_ws RX10 TX10 30, w ∈ wsX10_loose := by decide +kernel
set_option maxHeartbeats 4000000 in
set_option maxRecDepth 100000 in
theorem mp_X10_loose (l : Launch) (D : va_G) (cy : Nat → ClassId) (a : Nat → Nat) (sz : Nat)  : Met l yX10_loose wsX10_loose ({ frames := 1, cells := 0, slots := 0, locals := 21 }) (va_Pc [.ref (a 0)] (PW D cy sz (MW cy a (fun _ => 0) (fun _ => 0) (fun _ _ => 0) (fun _ _ => 0)))) (va_Qi (fun r (_ : Unit) => r = (-100006)) (fun _ _ => True) (va_A (MW cy a (fun _ => 0) (fun _ => 0) (fun _ _ => 0) (fun _ _ => 0)) sz)) 0 0 (va_A (MW cy a (fun _ => 0) (fun _ => 0) (fun _ _ => 0) (fun _ _ => 0)) sz) := by
  refine Met.ofW (cc := cX10_loose) (maxL := 1) (ret := (some .int)) (by decide) rfl ?_
  intro p e s m args below meth c s₁ B hml hv
  obtain ⟨rfl, rfl, hP, hK, hN, hD0⟩ := hv
  have hx := B.exec
  have hb := B.bytes
  have hr := B.returns
  have hts := atoms_spec (ws := wsX10_loose) B.pre
  have hown : s.vm.findClass RX10 = some m.cls := findClass_of_methodNamed B.named
  have hlocks := B.notSynchronized
  have hw0 := hts (.fieldLink RX10 85 "ParquetLayerModel" "stones" "I") (by decide +kernel)
  have hw1 := hts (.constant RX10 98 (-100006)) (by decide +kernel)
  have hi10 := ihX10_loose_10
  have hD := hD0.self (sz := s.heap.size)
  generalize hAe : va_A (MW cy a (fun _ => 0) (fun _ => 0) (fun _ _ => 0) (fun _ _ => 0)) s.heap.size = A at hD ⊢
  have hA : ∀ q : Nat, s.heap.size ≤ q → A q := fun q h => by rw [← hAe]; exact Or.inr h
  have hS : va_S A s.heap s.heap [] := va_S.rf
  have hl := lv_entry ([.ref (a 0)]) (n := 1) (Nat.le_of_ble_eq_true rfl)
  rw [lg_entry_eq]
  generalize (lg_sl ([.ref (a 0)]) ++ List.replicate (1 - (lg_sl ([.ref (a 0)])).length) Slot.unset).toArray = ls at hl ⊢
  have hl : lv_has ls 1 [(0, .ref (a 0))] := hl
  refine lv_aload_n hx hb dX10_loose_0 rfl (lv_at hl 0 rfl) ?_
  refine va_get (D := D) (ci := 9) (v := .int 0) (C := RX10) (T := TX10) (N := 30) hx hb hts hi10 hown hK hP 0 rfl rfl 1 (by decide) hw0 (fun _ h9 => h9) rfl dX10_loose_1 ?_
  refine lv_if_ne (tgt := 14) hx hb dX10_loose_4 (by decide) (fun c_1 => absurd (by decide) c_1) (fun c_1 => ?_)
  refine lv_aload_n hx hb dX10_loose_7 rfl (lv_at hl 0 rfl) ?_
  refine lv_ldc (v := (-100006)) hx hb hown hw1 dX10_loose_8 ?_
  refine kM_i (As := [.int (-100006)]) (rest := []) (q0 := 0) ⟨hx, hb, hml, hown, hts⟩ (c_X10_finding l D cy a _ (fun _ => 0) (fun _ => 0) (fun _ _ => 0) (fun _ _ => 0) (-100006) ) (cwV 1 hts gX10_loose_X10_finding rfl rfl rfl (by decide +kernel) ⟨Nat.le_of_ble_eq_true rfl, Nat.le_of_ble_eq_true rfl⟩) hK hN hP hD hS hA rfl rfl rfl hl.1 rfl (Nat.le_of_ble_eq_true rfl) dX10_loose_10 ⟨Nat.le_of_ble_eq_true rfl, Nat.le_of_ble_eq_true rfl⟩ (fun r u H locs hw hP hD hS => ?_)
  obtain ⟨rfl, rfl⟩ := hw
  have hP : va_P D vwCl (MW cy a (fun _ => 0) (va_up (fun _ => 0) 13 (0 + 1)) (fun _ _ => 0) (fun _ _ => 0)) H := hP
  have hD : va_D A (MW cy a (fun _ => 0) (va_up (fun _ => 0) 13 (0 + 1)) (fun _ _ => 0) (fun _ _ => 0)) := hD
  exact qret_i hx hb hr hlocks rfl hS dX10_loose_13
theorem dX10_undo_0 : decode cX10_undo 0 = .ok (.aload_n 0, 1) := by decide +kernel
theorem dX10_undo_1 : decode cX10_undo 1 = .ok (.getfield 78, 3) := by decide +kernel
theorem dX10_undo_4 : decode cX10_undo 4 = .ok (.ifCond .ne 10, 3) := by decide +kernel
theorem dX10_undo_7 : decode cX10_undo 7 = .ok (.aload_n 0, 1) := by decide +kernel
theorem dX10_undo_8 : decode cX10_undo 8 = .ok (.ldc 98, 2) := by decide +kernel
set_option maxRecDepth 20000 in
theorem ggX10_undo_X10_finding : GoodIn wsX10_undo wsX10_finding := goodIn_r _ [19, 20, 21, 22, 23, 24, 25, 26, 27, 28, 29, 30, 31, 32, 33, 34, 35, 36, 37, 38, 39, 40, 41, 42, 43, 44, 45, 46, 47, 48, 49, 50] (by decide +kernel) (by decide +kernel)
set_option maxRecDepth 20000 in
theorem gX10_undo_X10_finding : GoodIn wsX10_undo (wsV RX10 99 RX10 yX10_finding wsX10_finding) := goodIn_app (goodIn_of _ (by decide +kernel)) ggX10_undo_X10_finding
theorem dX10_undo_10 : decode cX10_undo 10 = .ok (.invokevirtual 99, 3) := by decide +kernel
theorem dX10_undo_13 : decode cX10_undo 13 = .ok (.ireturn, 1) := by decide +kernel
set_option maxRecDepth 20000 in
theorem ihX10_undo_10 : ∀ w ∈ u_ws RX10 TX10 30, w ∈ wsX10_undo := by decide +kernel
set_option maxHeartbeats 4000000 in
set_option maxRecDepth 100000 in
theorem mp_X10_undo (l : Launch) (D : va_G) (cy : Nat → ClassId) (a : Nat → Nat) (sz : Nat)  : Met l yX10_undo wsX10_undo ({ frames := 1, cells := 0, slots := 0, locals := 21 }) (va_Pc [.ref (a 0)] (PW D cy sz (MW cy a (fun _ => 0) (fun _ => 0) (fun _ _ => 0) (fun _ _ => 0)))) (va_Qi (fun r (_ : Unit) => r = (-100006)) (fun _ _ => True) (va_A (MW cy a (fun _ => 0) (fun _ => 0) (fun _ _ => 0) (fun _ _ => 0)) sz)) 0 0 (va_A (MW cy a (fun _ => 0) (fun _ => 0) (fun _ _ => 0) (fun _ _ => 0)) sz) := by
  refine Met.ofW (cc := cX10_undo) (maxL := 2) (ret := (some .int)) (by decide) rfl ?_
  intro p e s m args below meth c s₁ B hml hv
  obtain ⟨rfl, rfl, hP, hK, hN, hD0⟩ := hv
  have hx := B.exec
  have hb := B.bytes
  have hr := B.returns
  have hts := atoms_spec (ws := wsX10_undo) B.pre
  have hown : s.vm.findClass RX10 = some m.cls := findClass_of_methodNamed B.named
  have hlocks := B.notSynchronized
  have hw0 := hts (.fieldLink RX10 78 "ParquetLayerModel" "kept" "I") (by decide +kernel)
  have hw1 := hts (.constant RX10 98 (-100006)) (by decide +kernel)
  have hi10 := ihX10_undo_10
  have hD := hD0.self (sz := s.heap.size)
  generalize hAe : va_A (MW cy a (fun _ => 0) (fun _ => 0) (fun _ _ => 0) (fun _ _ => 0)) s.heap.size = A at hD ⊢
  have hA : ∀ q : Nat, s.heap.size ≤ q → A q := fun q h => by rw [← hAe]; exact Or.inr h
  have hS : va_S A s.heap s.heap [] := va_S.rf
  have hl := lv_entry ([.ref (a 0)]) (n := 2) (Nat.le_of_ble_eq_true rfl)
  rw [lg_entry_eq]
  generalize (lg_sl ([.ref (a 0)]) ++ List.replicate (2 - (lg_sl ([.ref (a 0)])).length) Slot.unset).toArray = ls at hl ⊢
  have hl : lv_has ls 2 [(0, .ref (a 0))] := hl
  refine lv_aload_n hx hb dX10_undo_0 rfl (lv_at hl 0 rfl) ?_
  refine va_get (D := D) (ci := 9) (v := .int 0) (C := RX10) (T := TX10) (N := 30) hx hb hts hi10 hown hK hP 0 rfl rfl 12 (by decide) hw0 (fun _ h9 => h9) rfl dX10_undo_1 ?_
  refine lv_if_ne (tgt := 14) hx hb dX10_undo_4 (by decide) (fun c_1 => absurd (by decide) c_1) (fun c_1 => ?_)
  refine lv_aload_n hx hb dX10_undo_7 rfl (lv_at hl 0 rfl) ?_
  refine lv_ldc (v := (-100006)) hx hb hown hw1 dX10_undo_8 ?_
  refine kM_i (As := [.int (-100006)]) (rest := []) (q0 := 0) ⟨hx, hb, hml, hown, hts⟩ (c_X10_finding l D cy a _ (fun _ => 0) (fun _ => 0) (fun _ _ => 0) (fun _ _ => 0) (-100006) ) (cwV 1 hts gX10_undo_X10_finding rfl rfl rfl (by decide +kernel) ⟨Nat.le_of_ble_eq_true rfl, Nat.le_of_ble_eq_true rfl⟩) hK hN hP hD hS hA rfl rfl rfl hl.1 rfl (Nat.le_of_ble_eq_true rfl) dX10_undo_10 ⟨Nat.le_of_ble_eq_true rfl, Nat.le_of_ble_eq_true rfl⟩ (fun r u H locs hw hP hD hS => ?_)
  obtain ⟨rfl, rfl⟩ := hw
  have hP : va_P D vwCl (MW cy a (fun _ => 0) (va_up (fun _ => 0) 13 (0 + 1)) (fun _ _ => 0) (fun _ _ => 0)) H := hP
  have hD : va_D A (MW cy a (fun _ => 0) (va_up (fun _ => 0) 13 (0 + 1)) (fun _ _ => 0) (fun _ _ => 0)) := hD
  exact qret_i hx hb hr hlocks rfl hS dX10_undo_13
theorem dX10_as_0 : decode cX10_as 0 = .ok (.aload_n 0, 1) := by decide +kernel
theorem dX10_as_1 : decode cX10_as 1 = .ok (.iload_n 1, 1) := by decide +kernel
set_option maxRecDepth 20000 in
theorem ggX10_as_X10_isStone : GoodIn wsX10_as wsX10_isStone := goodIn_r _ [7, 8, 9, 10, 6, 11, 22, 23, 24, 25, 26, 27, 28, 29, 30, 31, 32, 33, 34, 35, 36, 37, 38, 39, 40, 41, 42, 43, 44, 45, 46, 47, 48, 49, 50, 51] (by decide +kernel) (by decide +kernel)
set_option maxRecDepth 20000 in
theorem gX10_as_X10_isStone : GoodIn wsX10_as (wsV RX10 178 RX10 yX10_isStone wsX10_isStone) := goodIn_app (goodIn_of _ (by decide +kernel)) ggX10_as_X10_isStone
theorem dX10_as_2 : decode cX10_as 2 = .ok (.invokevirtual 178, 3) := by decide +kernel
theorem dX10_as_5 : decode cX10_as 5 = .ok (.ifCond .eq 12, 3) := by decide +kernel
theorem dX10_as_17 : decode cX10_as 17 = .ok (.aload_n 0, 1) := by decide +kernel
theorem dX10_as_18 : decode cX10_as 18 = .ok (.ldc 141, 2) := by decide +kernel
set_option maxRecDepth 20000 in
theorem ggX10_as_X10_finding : GoodIn wsX10_as wsX10_finding := goodIn_r _ [15, 16, 22, 23, 24, 25, 26, 27, 28, 29, 30, 31, 32, 33, 34, 35, 36, 37, 38, 39, 40, 41, 42, 43, 44, 45, 46, 47, 48, 49, 50, 51] (by decide +kernel) (by decide +kernel)
set_option maxRecDepth 20000 in
theorem gX10_as_X10_finding : GoodIn wsX10_as (wsV RX10 99 RX10 yX10_finding wsX10_finding) := goodIn_app (goodIn_of _ (by decide +kernel)) ggX10_as_X10_finding
theorem dX10_as_20 : decode cX10_as 20 = .ok (.invokevirtual 99, 3) := by decide +kernel
theorem dX10_as_23 : decode cX10_as 23 = .ok (.ireturn, 1) := by decide +kernel
set_option maxHeartbeats 4000000 in
set_option maxRecDepth 100000 in
theorem mp_X10_as (l : Launch) (D : va_G) (cy : Nat → ClassId) (a : Nat → Nat) (sz : Nat) (x0 : Int32) (x1 : Int32) : Met l yX10_as wsX10_as ({ frames := 2, cells := 0, slots := 0, locals := 43 }) (va_Pc [.ref (a 0), .int x0, .int x1] (PW D cy sz (MW cy a (fun _ => 0) (fun _ => 0) (fun _ _ => 0) (fun _ _ => 0)))) (va_Qi (fun r (_ : Unit) => r = (-100001)) (fun _ _ => True) (va_A (MW cy a (fun _ => 0) (fun _ => 0) (fun _ _ => 0) (fun _ _ => 0)) sz)) 0 0 (va_A (MW cy a (fun _ => 0) (fun _ => 0) (fun _ _ => 0) (fun _ _ => 0)) sz) := by
  refine Met.ofW (cc := cX10_as) (maxL := 4) (ret := (some .int)) (by decide) rfl ?_
  intro p e s m args below meth c s₁ B hml hv
  obtain ⟨rfl, rfl, hP, hK, hN, hD0⟩ := hv
  have hx := B.exec
  have hb := B.bytes
  have hr := B.returns
  have hts := atoms_spec (ws := wsX10_as) B.pre
  have hown : s.vm.findClass RX10 = some m.cls := findClass_of_methodNamed B.named
  have hlocks := B.notSynchronized
  have hw0 := hts (.constant RX10 141 (-100001)) (by decide +kernel)
  have hD := hD0.self (sz := s.heap.size)
  generalize hAe : va_A (MW cy a (fun _ => 0) (fun _ => 0) (fun _ _ => 0) (fun _ _ => 0)) s.heap.size = A at hD ⊢
  have hA : ∀ q : Nat, s.heap.size ≤ q → A q := fun q h => by rw [← hAe]; exact Or.inr h
  have hS : va_S A s.heap s.heap [] := va_S.rf
  have hl := lv_entry ([.ref (a 0), .int x0, .int x1]) (n := 4) (Nat.le_of_ble_eq_true rfl)
  rw [lg_entry_eq]
  generalize (lg_sl ([.ref (a 0), .int x0, .int x1]) ++ List.replicate (4 - (lg_sl ([.ref (a 0), .int x0, .int x1])).length) Slot.unset).toArray = ls at hl ⊢
  have hl : lv_has ls 4 [(0, .ref (a 0)), (1, .int x0), (2, .int x1)] := hl
  refine lv_aload_n hx hb dX10_as_0 rfl (lv_at hl 0 rfl) ?_
  refine lv_iload_n hx hb dX10_as_1 rfl (lv_at hl 1 rfl) ?_
  refine kR_i (As := [.int x0]) (rest := []) (q0 := 0) ⟨hx, hb, hml, hown, hts⟩ (c_X10_isStone l D cy a _  x0 ) (cwV 1 hts gX10_as_X10_isStone rfl rfl rfl (by decide +kernel) ⟨Nat.le_of_ble_eq_true rfl, Nat.le_of_ble_eq_true rfl⟩) hK hN hP hD rfl rfl rfl hl.1 rfl (Nat.le_of_ble_eq_true rfl) dX10_as_2 ⟨Nat.le_of_ble_eq_true rfl, Nat.le_of_ble_eq_true rfl⟩ ?_
  refine lv_if_eq (tgt := 17) hx hb dX10_as_5 (by decide) (fun c_1 => ?_) (fun c_1 => absurd (by rw [within_m1]; rfl) c_1)
  refine lv_aload_n hx hb dX10_as_17 rfl (lv_at hl 0 rfl) ?_
  refine lv_ldc (v := (-100001)) hx hb hown hw0 dX10_as_18 ?_
  refine kM_i (As := [.int (-100001)]) (rest := []) (q0 := 0) ⟨hx, hb, hml, hown, hts⟩ (c_X10_finding l D cy a _ (fun _ => 0) (fun _ => 0) (fun _ _ => 0) (fun _ _ => 0) (-100001) ) (cwV 1 hts gX10_as_X10_finding rfl rfl rfl (by decide +kernel) ⟨Nat.le_of_ble_eq_true rfl, Nat.le_of_ble_eq_true rfl⟩) hK hN hP hD hS hA rfl rfl rfl hl.1 rfl (Nat.le_of_ble_eq_true rfl) dX10_as_20 ⟨Nat.le_of_ble_eq_true rfl, Nat.le_of_ble_eq_true rfl⟩ (fun r u H locs hw hP hD hS => ?_)
  obtain ⟨rfl, rfl⟩ := hw
  have hP : va_P D vwCl (MW cy a (fun _ => 0) (va_up (fun _ => 0) 13 (0 + 1)) (fun _ _ => 0) (fun _ _ => 0)) H := hP
  have hD : va_D A (MW cy a (fun _ => 0) (va_up (fun _ => 0) 13 (0 + 1)) (fun _ _ => 0) (fun _ _ => 0)) := hD
  exact qret_i hx hb hr hlocks rfl hS dX10_as_23
theorem dX10_told_0 : decode cX10_told 0 = .ok (.aload_n 0, 1) := by decide +kernel
theorem dX10_told_1 : decode cX10_told 1 = .ok (.iload_n 1, 1) := by decide +kernel
set_option maxRecDepth 20000 in
theorem ggX10_told_X10_isStone : GoodIn wsX10_told wsX10_isStone := goodIn_r _ [10, 11, 12, 13, 9, 14, 35, 36, 37, 38, 39, 40, 41, 42, 43, 44, 45, 46, 47, 48, 49, 50, 51, 52, 53, 54, 55, 56, 57, 58, 59, 60, 61, 62, 63, 64] (by decide +kernel) (by decide +kernel)
set_option maxRecDepth 20000 in
theorem gX10_told_X10_isStone : GoodIn wsX10_told (wsV RX10 178 RX10 yX10_isStone wsX10_isStone) := goodIn_app (goodIn_of _ (by decide +kernel)) ggX10_told_X10_isStone
theorem dX10_told_2 : decode cX10_told 2 = .ok (.invokevirtual 178, 3) := by decide +kernel
theorem dX10_told_5 : decode cX10_told 5 = .ok (.ifCond .eq 12, 3) := by decide +kernel
theorem dX10_told_17 : decode cX10_told 17 = .ok (.aload_n 0, 1) := by decide +kernel
theorem dX10_told_18 : decode cX10_told 18 = .ok (.ldc 141, 2) := by decide +kernel
set_option maxRecDepth 20000 in
theorem ggX10_told_X10_finding : GoodIn wsX10_told wsX10_finding := goodIn_r _ [18, 19, 35, 36, 37, 38, 39, 40, 41, 42, 43, 44, 45, 46, 47, 48, 49, 50, 51, 52, 53, 54, 55, 56, 57, 58, 59, 60, 61, 62, 63, 64] (by decide +kernel) (by decide +kernel)
set_option maxRecDepth 20000 in
theorem gX10_told_X10_finding : GoodIn wsX10_told (wsV RX10 99 RX10 yX10_finding wsX10_finding) := goodIn_app (goodIn_of _ (by decide +kernel)) ggX10_told_X10_finding
theorem dX10_told_20 : decode cX10_told 20 = .ok (.invokevirtual 99, 3) := by decide +kernel
theorem dX10_told_23 : decode cX10_told 23 = .ok (.ireturn, 1) := by decide +kernel
set_option maxHeartbeats 4000000 in
set_option maxRecDepth 100000 in
theorem mp_X10_told (l : Launch) (D : va_G) (cy : Nat → ClassId) (a : Nat → Nat) (sz : Nat) (x0 : Int32) (x1 : Int32) : Met l yX10_told wsX10_told ({ frames := 2, cells := 0, slots := 0, locals := 43 }) (va_Pc [.ref (a 0), .int x0, .int x1] (PW D cy sz (MW cy a (fun _ => 0) (fun _ => 0) (fun _ _ => 0) (fun _ _ => 0)))) (va_Qi (fun r (_ : Unit) => r = (-100001)) (fun _ _ => True) (va_A (MW cy a (fun _ => 0) (fun _ => 0) (fun _ _ => 0) (fun _ _ => 0)) sz)) 0 0 (va_A (MW cy a (fun _ => 0) (fun _ => 0) (fun _ _ => 0) (fun _ _ => 0)) sz) := by
  refine Met.ofW (cc := cX10_told) (maxL := 3) (ret := (some .int)) (by decide) rfl ?_
  intro p e s m args below meth c s₁ B hml hv
  obtain ⟨rfl, rfl, hP, hK, hN, hD0⟩ := hv
  have hx := B.exec
  have hb := B.bytes
  have hr := B.returns
  have hts := atoms_spec (ws := wsX10_told) B.pre
  have hown : s.vm.findClass RX10 = some m.cls := findClass_of_methodNamed B.named
  have hlocks := B.notSynchronized
  have hw0 := hts (.constant RX10 141 (-100001)) (by decide +kernel)
  have hD := hD0.self (sz := s.heap.size)
  generalize hAe : va_A (MW cy a (fun _ => 0) (fun _ => 0) (fun _ _ => 0) (fun _ _ => 0)) s.heap.size = A at hD ⊢
  have hA : ∀ q : Nat, s.heap.size ≤ q → A q := fun q h => by rw [← hAe]; exact Or.inr h
  have hS : va_S A s.heap s.heap [] := va_S.rf
  have hl := lv_entry ([.ref (a 0), .int x0, .int x1]) (n := 3) (Nat.le_of_ble_eq_true rfl)
  rw [lg_entry_eq]
  generalize (lg_sl ([.ref (a 0), .int x0, .int x1]) ++ List.replicate (3 - (lg_sl ([.ref (a 0), .int x0, .int x1])).length) Slot.unset).toArray = ls at hl ⊢
  have hl : lv_has ls 3 [(0, .ref (a 0)), (1, .int x0), (2, .int x1)] := hl
  refine lv_aload_n hx hb dX10_told_0 rfl (lv_at hl 0 rfl) ?_
  refine lv_iload_n hx hb dX10_told_1 rfl (lv_at hl 1 rfl) ?_
  refine kR_i (As := [.int x0]) (rest := []) (q0 := 0) ⟨hx, hb, hml, hown, hts⟩ (c_X10_isStone l D cy a _  x0 ) (cwV 1 hts gX10_told_X10_isStone rfl rfl rfl (by decide +kernel) ⟨Nat.le_of_ble_eq_true rfl, Nat.le_of_ble_eq_true rfl⟩) hK hN hP hD rfl rfl rfl hl.1 rfl (Nat.le_of_ble_eq_true rfl) dX10_told_2 ⟨Nat.le_of_ble_eq_true rfl, Nat.le_of_ble_eq_true rfl⟩ ?_
  refine lv_if_eq (tgt := 17) hx hb dX10_told_5 (by decide) (fun c_1 => ?_) (fun c_1 => absurd (by rw [within_m1]; rfl) c_1)
  refine lv_aload_n hx hb dX10_told_17 rfl (lv_at hl 0 rfl) ?_
  refine lv_ldc (v := (-100001)) hx hb hown hw0 dX10_told_18 ?_
  refine kM_i (As := [.int (-100001)]) (rest := []) (q0 := 0) ⟨hx, hb, hml, hown, hts⟩ (c_X10_finding l D cy a _ (fun _ => 0) (fun _ => 0) (fun _ _ => 0) (fun _ _ => 0) (-100001) ) (cwV 1 hts gX10_told_X10_finding rfl rfl rfl (by decide +kernel) ⟨Nat.le_of_ble_eq_true rfl, Nat.le_of_ble_eq_true rfl⟩) hK hN hP hD hS hA rfl rfl rfl hl.1 rfl (Nat.le_of_ble_eq_true rfl) dX10_told_20 ⟨Nat.le_of_ble_eq_true rfl, Nat.le_of_ble_eq_true rfl⟩ (fun r u H locs hw hP hD hS => ?_)
  obtain ⟨rfl, rfl⟩ := hw
  have hP : va_P D vwCl (MW cy a (fun _ => 0) (va_up (fun _ => 0) 13 (0 + 1)) (fun _ _ => 0) (fun _ _ => 0)) H := hP
  have hD : va_D A (MW cy a (fun _ => 0) (va_up (fun _ => 0) 13 (0 + 1)) (fun _ _ => 0) (fun _ _ => 0)) := hD
  exact qret_i hx hb hr hlocks rfl hS dX10_told_23
theorem dX10_draw_0 : decode cX10_draw 0 = .ok (.aload_n 0, 1) := by decide +kernel
set_option maxRecDepth 20000 in
theorem ggX10_draw_X10_countAll : GoodIn wsX10_draw wsX10_countAll := goodIn_r _ [7, 8, 9, 10, 6, 11, 12, 13, 14, 15, 16, 17, 18, 19, 20, 21, 22, 23, 24, 25, 26, 27, 28, 29, 30, 31, 32, 33, 34, 35, 36, 37, 38, 39, 40, 41, 42, 43, 44, 45, 46, 47, 48, 49, 50, 51, 52, 53, 54, 55, 56, 57, 58, 77, 78, 79, 80, 81, 82, 83, 84, 85, 86, 87, 88, 89, 90, 91, 92, 93, 94, 95, 96, 97, 98, 99, 100, 101, 102, 103, 104, 105, 106] (by decide +kernel) (by decide +kernel)
set_option maxRecDepth 20000 in
theorem gX10_draw_X10_countAll : GoodIn wsX10_draw (wsV RX10 207 RX10 yX10_countAll wsX10_countAll) := goodIn_app (goodIn_of _ (by decide +kernel)) ggX10_draw_X10_countAll
theorem dX10_draw_1 : decode cX10_draw 1 = .ok (.invokevirtual 207, 3) := by decide +kernel
theorem dX10_draw_4 : decode cX10_draw 4 = .ok (.istore_n 2, 1) := by decide +kernel
theorem dX10_draw_5 : decode cX10_draw 5 = .ok (.iload_n 2, 1) := by decide +kernel
theorem dX10_draw_6 : decode cX10_draw 6 = .ok (.ifCond .ne 10, 3) := by decide +kernel
theorem dX10_draw_16 : decode cX10_draw 16 = .ok (.iconst 0, 1) := by decide +kernel
theorem dX10_draw_17 : decode cX10_draw 17 = .ok (.istore_n 3, 1) := by decide +kernel
theorem dX10_draw_18 : decode cX10_draw 18 = .ok (.iload_n 2, 1) := by decide +kernel
theorem dX10_draw_19 : decode cX10_draw 19 = .ok (.iconst 1, 1) := by decide +kernel
theorem dX10_draw_20 : decode cX10_draw 20 = .ok (.isub, 1) := by decide +kernel
theorem dX10_draw_21 : decode cX10_draw 21 = .ok (.iload_n 3, 1) := by decide +kernel
theorem dX10_draw_22 : decode cX10_draw 22 = .ok (.ishr, 1) := by decide +kernel
theorem dX10_draw_23 : decode cX10_draw 23 = .ok (.ifCond .eq 9, 3) := by decide +kernel
theorem dX10_draw_32 : decode cX10_draw 32 = .ok (.iload_n 1, 1) := by decide +kernel
theorem dX10_draw_33 : decode cX10_draw 33 = .ok (.istore 4, 2) := by decide +kernel
theorem dX10_draw_35 : decode cX10_draw 35 = .ok (.iload_n 2, 1) := by decide +kernel
theorem dX10_draw_36 : decode cX10_draw 36 = .ok (.istore 5, 2) := by decide +kernel
theorem dX10_draw_38 : decode cX10_draw 38 = .ok (.iload 5, 2) := by decide +kernel
theorem dX10_draw_40 : decode cX10_draw 40 = .ok (.iload_n 2, 1) := by decide +kernel
theorem dX10_draw_41 : decode cX10_draw 41 = .ok (.if_icmp .lt 47, 3) := by decide +kernel
theorem dX10_draw_44 : decode cX10_draw 44 = .ok (.iconst 0, 1) := by decide +kernel
theorem dX10_draw_45 : decode cX10_draw 45 = .ok (.istore 5, 2) := by decide +kernel
theorem dX10_draw_47 : decode cX10_draw 47 = .ok (.iconst 0, 1) := by decide +kernel
theorem dX10_draw_48 : decode cX10_draw 48 = .ok (.istore 6, 2) := by decide +kernel
theorem dX10_draw_50 : decode cX10_draw 50 = .ok (.iload 6, 2) := by decide +kernel
theorem dX10_draw_52 : decode cX10_draw 52 = .ok (.iload_n 3, 1) := by decide +kernel
theorem dX10_draw_53 : decode cX10_draw 53 = .ok (.if_icmp .ge 32, 3) := by decide +kernel
theorem dX10_draw_85 : decode cX10_draw 85 = .ok (.goto (-47), 3) := by decide +kernel
theorem dX10_draw_88 : decode cX10_draw 88 = .ok (.aload_n 0, 1) := by decide +kernel
theorem dX10_draw_89 : decode cX10_draw 89 = .ok (.iload 5, 2) := by decide +kernel
set_option maxRecDepth 20000 in
theorem ggX10_draw_X10_take : GoodIn wsX10_draw wsX10_take := goodIn_r _ [67, 68, 69, 70, 71, 72, 73, 74, 75, 6, 76, 46, 47, 48, 49, 50, 51, 52, 53, 54, 14, 13, 12, 37, 38, 39, 40, 55, 56, 57, 58, 45, 77, 78, 79, 80, 81, 82, 83, 84, 85, 86, 87, 88, 89, 90, 91, 92, 93, 94, 95, 96, 97, 98, 99, 100, 101, 102, 103, 104, 105, 106] (by decide +kernel) (by decide +kernel)
set_option maxRecDepth 20000 in
theorem gX10_draw_X10_take : GoodIn wsX10_draw (wsV RX10 220 RX10 yX10_take wsX10_take) := goodIn_app (goodIn_of _ (by decide +kernel)) ggX10_draw_X10_take
theorem dX10_draw_91 : decode cX10_draw 91 = .ok (.invokevirtual 220, 3) := by decide +kernel
theorem dX10_draw_94 : decode cX10_draw 94 = .ok (.iload 5, 2) := by decide +kernel
theorem dX10_draw_96 : decode cX10_draw 96 = .ok (.ireturn, 1) := by decide +kernel
set_option maxHeartbeats 4000000 in
set_option maxRecDepth 100000 in
theorem mp_X10_draw (l : Launch) (D : va_G) (cy : Nat → ClassId) (a : Nat → Nat) (sz : Nat) (x0 : Int32) : Met l yX10_draw wsX10_draw ({ frames := 4, cells := 0, slots := 0, locals := 92 }) (va_Pc [.ref (a 0), .int x0] (PW D cy sz (MW cy a (fun _ => 0) (fun _ => 0) (fun _ _ => 0) (fun _ _ => 0)))) (va_Qi (fun r (_ : Unit) => r = 0) (fun _ _ => True) (va_A (MW cy a (fun _ => 0) (fun _ => 0) (fun _ _ => 0) (fun _ _ => 0)) sz)) 0 0 (va_A (MW cy a (fun _ => 0) (fun _ => 0) (fun _ _ => 0) (fun _ _ => 0)) sz) := by
  refine Met.ofW (cc := cX10_draw) (maxL := 7) (ret := (some .int)) (by decide) rfl ?_
  intro p e s m args below meth c s₁ B hml hv
  obtain ⟨rfl, rfl, hP, hK, hN, hD0⟩ := hv
  have hx := B.exec
  have hb := B.bytes
  have hr := B.returns
  have hts := atoms_spec (ws := wsX10_draw) B.pre
  have hown : s.vm.findClass RX10 = some m.cls := findClass_of_methodNamed B.named
  have hlocks := B.notSynchronized
  have hD := hD0.self (sz := s.heap.size)
  generalize hAe : va_A (MW cy a (fun _ => 0) (fun _ => 0) (fun _ _ => 0) (fun _ _ => 0)) s.heap.size = A at hD ⊢
  have hA : ∀ q : Nat, s.heap.size ≤ q → A q := fun q h => by rw [← hAe]; exact Or.inr h
  have hS : va_S A s.heap s.heap [] := va_S.rf
  have hl := lv_entry ([.ref (a 0), .int x0]) (n := 7) (Nat.le_of_ble_eq_true rfl)
  rw [lg_entry_eq]
  generalize (lg_sl ([.ref (a 0), .int x0]) ++ List.replicate (7 - (lg_sl ([.ref (a 0), .int x0])).length) Slot.unset).toArray = ls at hl ⊢
  have hl : lv_has ls 7 [(0, .ref (a 0)), (1, .int x0)] := hl
  refine lv_aload_n hx hb dX10_draw_0 rfl (lv_at hl 0 rfl) ?_
  refine kM_i (As := []) (rest := []) (q0 := 0) ⟨hx, hb, hml, hown, hts⟩ (hv_X10_countAll l D cy a _   ) (cwV 0 hts gX10_draw_X10_countAll rfl rfl rfl (by decide +kernel) ⟨Nat.le_of_ble_eq_true rfl, Nat.le_of_ble_eq_true rfl⟩) hK hN hP hD hS hA rfl rfl rfl hl.1 rfl (Nat.le_of_ble_eq_true rfl) dX10_draw_1 ⟨Nat.le_of_ble_eq_true rfl, Nat.le_of_ble_eq_true rfl⟩ (fun r u H locs hw hP hD hS => ?_)
  obtain ⟨z_J, z_I, Rh_1, z_RJ⟩ := u
  try dsimp only at hw
  obtain ⟨rfl, rfl, rfl, rfl⟩ := hw
  have hP : va_P D vwCl (MW cy a (fun _ => 0) (fun _ => 0) Rh_1 (fun _ _ => 0)) H := hP
  have hD : va_D A (MW cy a (fun _ => 0) (fun _ => 0) Rh_1 (fun _ _ => 0)) := hD
  refine lv_istore_n (lv' := [(2, .int 1), (0, .ref (a 0)), (1, .int x0)]) hx hb dX10_draw_4 rfl hl (by decide) rfl (fun ls hl => ?_)
  refine lv_iload_n hx hb dX10_draw_5 rfl (lv_at hl 0 rfl) ?_
  refine lv_if_ne (tgt := 16) hx hb dX10_draw_6 (by decide) (fun c_2 => ?_) (fun c_2 => absurd c_2 (by decide))
  refine lv_iconst (v := 0) hx hb dX10_draw_16 (by decide) ?_
  refine lv_istore_n (lv' := [(3, .int 0), (2, .int 1), (0, .ref (a 0)), (1, .int x0)]) hx hb dX10_draw_17 rfl hl (by decide) rfl (fun ls hl => ?_)
  refine lv_iload_n hx hb dX10_draw_18 rfl (lv_at hl 1 rfl) ?_
  refine lv_iconst (v := 1) hx hb dX10_draw_19 (by decide) ?_
  refine lv_isub hx hb dX10_draw_20 ?_
  refine wtop_i (y := 0) (by decide) ?_
  refine lv_iload_n hx hb dX10_draw_21 rfl (lv_at hl 0 rfl) ?_
  refine lv_ishr hx hb dX10_draw_22 ?_
  refine wtop_i (y := 0) (by decide) ?_
  refine lv_if_eq (tgt := 32) hx hb dX10_draw_23 (by decide) (fun c_3 => ?_) (fun c_3 => absurd (by decide) c_3)
  refine lv_iload_n hx hb dX10_draw_32 rfl (lv_at hl 3 rfl) ?_
  refine lv_istore (lv' := [(4, .int x0), (3, .int 0), (2, .int 1), (0, .ref (a 0)), (1, .int x0)]) hx hb dX10_draw_33 hl (by decide) rfl (fun ls hl => ?_)
  refine lv_iload_n hx hb dX10_draw_35 rfl (lv_at hl 2 rfl) ?_
  refine lv_istore (lv' := [(5, .int 1), (4, .int x0), (3, .int 0), (2, .int 1), (0, .ref (a 0)), (1, .int x0)]) hx hb dX10_draw_36 hl (by decide) rfl (fun ls hl => ?_)
  refine lv_iload hx hb dX10_draw_38 (lv_at hl 0 rfl) ?_
  refine lv_iload_n hx hb dX10_draw_40 rfl (lv_at hl 3 rfl) ?_
  refine lv_icmp_lt (tgt := 88) hx hb dX10_draw_41 (by decide) (fun c_4 => absurd c_4 (by decide)) (fun c_4 => ?_)
  refine lv_iconst (v := 0) hx hb dX10_draw_44 (by decide) ?_
  refine lv_istore (lv' := [(5, .int 0), (4, .int x0), (3, .int 0), (2, .int 1), (0, .ref (a 0)), (1, .int x0)]) hx hb dX10_draw_45 hl (by decide) rfl (fun ls hl => ?_)
  refine lv_iconst (v := 0) hx hb dX10_draw_47 (by decide) ?_
  refine lv_istore (lv' := [(6, .int 0), (5, .int 0), (4, .int x0), (3, .int 0), (2, .int 1), (0, .ref (a 0)), (1, .int x0)]) hx hb dX10_draw_48 hl (by decide) rfl (fun ls hl => ?_)
  refine lv_iload hx hb dX10_draw_50 (lv_at hl 0 rfl) ?_
  refine lv_iload_n hx hb dX10_draw_52 rfl (lv_at hl 3 rfl) ?_
  refine lv_icmp_ge (tgt := 85) hx hb dX10_draw_53 (by decide) (fun c_5 => ?_) (fun c_5 => absurd (by decide) c_5)
  refine lv_goto (tgt := 38) hx hb dX10_draw_85 (by decide) ?_
  refine lv_iload hx hb dX10_draw_38 (lv_at hl 1 rfl) ?_
  refine lv_iload_n hx hb dX10_draw_40 rfl (lv_at hl 4 rfl) ?_
  refine lv_icmp_lt (tgt := 88) hx hb dX10_draw_41 (by decide) (fun c_6 => ?_) (fun c_6 => absurd (by decide) c_6)
  refine lv_aload_n hx hb dX10_draw_88 rfl (lv_at hl 5 rfl) ?_
  refine lv_iload hx hb dX10_draw_89 (lv_at hl 1 rfl) ?_
  refine kM_v (As := [.int 0]) (rest := []) (q0 := 0) ⟨hx, hb, hml, hown, hts⟩ (hv_X10_take l D cy a _ Rh_1 0 ) (cwV 1 hts gX10_draw_X10_take rfl rfl rfl (by decide +kernel) ⟨Nat.le_of_ble_eq_true rfl, Nat.le_of_ble_eq_true rfl⟩) hK hN hP hD hS hA rfl rfl rfl hl.1 rfl (Nat.le_of_ble_eq_true rfl) dX10_draw_91 ⟨Nat.le_of_ble_eq_true rfl, Nat.le_of_ble_eq_true rfl⟩ (fun u H locs hw hP hD hS => ?_)
  obtain ⟨Jh_7, Ih_8, Rh_9, RJh_10⟩ := u
  try dsimp only at hw
  have hP : va_P D vwCl (MW cy a Jh_7 Ih_8 Rh_9 RJh_10) H := hP
  have hD : va_D A (MW cy a Jh_7 Ih_8 Rh_9 RJh_10) := hD
  refine lv_iload hx hb dX10_draw_94 (lv_at hl 1 rfl) ?_
  exact qret_i hx hb hr hlocks rfl hS dX10_draw_96
theorem dX10_partner_0 : decode cX10_partner 0 = .ok (.iload_n 1, 1) := by decide +kernel
set_option maxRecDepth 20000 in
theorem ggX10_partner_X10_isField : GoodIn wsX10_partner wsX10_isField := goodIn_r _ [10, 11, 12, 9, 13] (by decide +kernel) (by decide +kernel)
set_option maxRecDepth 20000 in
theorem gX10_partner_X10_isField : GoodIn wsX10_partner (va_wsS RX10 147 yX10_isField wsX10_isField) := goodIn_app (goodIn_of _ (by decide +kernel)) ggX10_partner_X10_isField
theorem dX10_partner_1 : decode cX10_partner 1 = .ok (.invokestatic 147, 3) := by decide +kernel
theorem dX10_partner_4 : decode cX10_partner 4 = .ok (.ifCond .ne 10, 3) := by decide +kernel
theorem dX10_partner_14 : decode cX10_partner 14 = .ok (.aload_n 0, 1) := by decide +kernel
theorem dX10_partner_15 : decode cX10_partner 15 = .ok (.getfield 88, 3) := by decide +kernel
theorem dX10_partner_18 : decode cX10_partner 18 = .ok (.ifCond .eq 14, 3) := by decide +kernel
theorem dX10_partner_32 : decode cX10_partner 32 = .ok (.aload_n 0, 1) := by decide +kernel
theorem dX10_partner_33 : decode cX10_partner 33 = .ok (.ldc 98, 2) := by decide +kernel
set_option maxRecDepth 20000 in
theorem ggX10_partner_X10_finding : GoodIn wsX10_partner wsX10_finding := goodIn_r _ [17, 18, 22, 23, 24, 25, 26, 27, 28, 29, 30, 31, 32, 33, 34, 35, 36, 37, 38, 39, 40, 41, 42, 43, 44, 45, 46, 47, 48, 49, 50, 51] (by decide +kernel) (by decide +kernel)
set_option maxRecDepth 20000 in
theorem gX10_partner_X10_finding : GoodIn wsX10_partner (wsV RX10 99 RX10 yX10_finding wsX10_finding) := goodIn_app (goodIn_of _ (by decide +kernel)) ggX10_partner_X10_finding
theorem dX10_partner_35 : decode cX10_partner 35 = .ok (.invokevirtual 99, 3) := by decide +kernel
theorem dX10_partner_38 : decode cX10_partner 38 = .ok (.ireturn, 1) := by decide +kernel
theorem dX10_partner_7 : decode cX10_partner 7 = .ok (.aload_n 0, 1) := by decide +kernel
theorem dX10_partner_8 : decode cX10_partner 8 = .ok (.ldc 141, 2) := by decide +kernel
theorem dX10_partner_10 : decode cX10_partner 10 = .ok (.invokevirtual 99, 3) := by decide +kernel
theorem dX10_partner_13 : decode cX10_partner 13 = .ok (.ireturn, 1) := by decide +kernel
set_option maxRecDepth 20000 in
theorem ihX10_partner_10 : ∀ w ∈ u_ws RX10 TX10 30, w ∈ wsX10_partner := by decide +kernel
set_option maxHeartbeats 4000000 in
set_option maxRecDepth 100000 in
theorem mp_X10_partner (l : Launch) (D : va_G) (cy : Nat → ClassId) (a : Nat → Nat) (sz : Nat) (x0 : Int32) : Met l yX10_partner wsX10_partner ({ frames := 2, cells := 0, slots := 0, locals := 42 }) (va_Pc [.ref (a 0), .int x0] (PW D cy sz (MW cy a (fun _ => 0) (fun _ => 0) (fun _ _ => 0) (fun _ _ => 0)))) (va_Qi (fun r (_ : Unit) => r = a_fld x0 (-100006)) (fun _ _ => True) (va_A (MW cy a (fun _ => 0) (fun _ => 0) (fun _ _ => 0) (fun _ _ => 0)) sz)) 0 0 (va_A (MW cy a (fun _ => 0) (fun _ => 0) (fun _ _ => 0) (fun _ _ => 0)) sz) := by
  refine Met.ofW (cc := cX10_partner) (maxL := 2) (ret := (some .int)) (by decide) rfl ?_
  intro p e s m args below meth c s₁ B hml hv
  obtain ⟨rfl, rfl, hP, hK, hN, hD0⟩ := hv
  have hx := B.exec
  have hb := B.bytes
  have hr := B.returns
  have hts := atoms_spec (ws := wsX10_partner) B.pre
  have hown : s.vm.findClass RX10 = some m.cls := findClass_of_methodNamed B.named
  have hlocks := B.notSynchronized
  have hw0 := hts (.fieldLink RX10 88 "ParquetLayerModel" "isLaid" "Z") (by decide +kernel)
  have hw1 := hts (.constant RX10 98 (-100006)) (by decide +kernel)
  have hw2 := hts (.constant RX10 141 (-100001)) (by decide +kernel)
  have hi10 := ihX10_partner_10
  have hD := hD0.self (sz := s.heap.size)
  generalize hAe : va_A (MW cy a (fun _ => 0) (fun _ => 0) (fun _ _ => 0) (fun _ _ => 0)) s.heap.size = A at hD ⊢
  have hA : ∀ q : Nat, s.heap.size ≤ q → A q := fun q h => by rw [← hAe]; exact Or.inr h
  have hS : va_S A s.heap s.heap [] := va_S.rf
  have hl := lv_entry ([.ref (a 0), .int x0]) (n := 2) (Nat.le_of_ble_eq_true rfl)
  rw [lg_entry_eq]
  generalize (lg_sl ([.ref (a 0), .int x0]) ++ List.replicate (2 - (lg_sl ([.ref (a 0), .int x0])).length) Slot.unset).toArray = ls at hl ⊢
  have hl : lv_has ls 2 [(0, .ref (a 0)), (1, .int x0)] := hl
  refine lv_iload_n hx hb dX10_partner_0 rfl (lv_at hl 1 rfl) ?_
  refine kS_i (As := [.int x0]) (rest := []) ⟨hx, hb, hml, hown, hts⟩ (c_X10_isField l x0) (va_cwS 1 hts gX10_partner_X10_isField rfl rfl rfl (by decide +kernel) ⟨Nat.le_of_ble_eq_true rfl, Nat.le_of_ble_eq_true rfl⟩) rfl hl.1 rfl (Nat.le_of_ble_eq_true rfl) dX10_partner_1 ⟨Nat.le_of_ble_eq_true rfl, Nat.le_of_ble_eq_true rfl⟩ ?_
  refine lv_if_ne (tgt := 14) hx hb dX10_partner_4 (by decide) (fun c_1 => ?_) (fun c_1 => ?_)
  · replace c_1 := bI_t c_1
    refine lv_aload_n hx hb dX10_partner_14 rfl (lv_at hl 0 rfl) ?_
    refine va_get (D := D) (ci := 9) (v := .int 0) (C := RX10) (T := TX10) (N := 30) hx hb hts hi10 hown hK hP 0 rfl rfl 3 (by decide) hw0 (fun _ h9 => h9) rfl dX10_partner_15 ?_
    refine lv_if_eq (tgt := 32) hx hb dX10_partner_18 (by decide) (fun c_2 => ?_) (fun c_2 => absurd (by decide) c_2)
    refine lv_aload_n hx hb dX10_partner_32 rfl (lv_at hl 0 rfl) ?_
    refine lv_ldc (v := (-100006)) hx hb hown hw1 dX10_partner_33 ?_
    refine kM_i (As := [.int (-100006)]) (rest := []) (q0 := 0) ⟨hx, hb, hml, hown, hts⟩ (c_X10_finding l D cy a _ (fun _ => 0) (fun _ => 0) (fun _ _ => 0) (fun _ _ => 0) (-100006) ) (cwV 1 hts gX10_partner_X10_finding rfl rfl rfl (by decide +kernel) ⟨Nat.le_of_ble_eq_true rfl, Nat.le_of_ble_eq_true rfl⟩) hK hN hP hD hS hA rfl rfl rfl hl.1 rfl (Nat.le_of_ble_eq_true rfl) dX10_partner_35 ⟨Nat.le_of_ble_eq_true rfl, Nat.le_of_ble_eq_true rfl⟩ (fun r u H locs hw hP hD hS => ?_)
    obtain ⟨rfl, rfl⟩ := hw
    have hP : va_P D vwCl (MW cy a (fun _ => 0) (va_up (fun _ => 0) 13 (0 + 1)) (fun _ _ => 0) (fun _ _ => 0)) H := hP
    have hD : va_D A (MW cy a (fun _ => 0) (va_up (fun _ => 0) 13 (0 + 1)) (fun _ _ => 0) (fun _ _ => 0)) := hD
    exact qret_i hx hb hr hlocks (by simp [a_fld, c_1]) hS dX10_partner_38
  · replace c_1 := bI_f c_1
    refine lv_aload_n hx hb dX10_partner_7 rfl (lv_at hl 0 rfl) ?_
    refine lv_ldc (v := (-100001)) hx hb hown hw2 dX10_partner_8 ?_
    refine kM_i (As := [.int (-100001)]) (rest := []) (q0 := 0) ⟨hx, hb, hml, hown, hts⟩ (c_X10_finding l D cy a _ (fun _ => 0) (fun _ => 0) (fun _ _ => 0) (fun _ _ => 0) (-100001) ) (cwV 1 hts gX10_partner_X10_finding rfl rfl rfl (by decide +kernel) ⟨Nat.le_of_ble_eq_true rfl, Nat.le_of_ble_eq_true rfl⟩) hK hN hP hD hS hA rfl rfl rfl hl.1 rfl (Nat.le_of_ble_eq_true rfl) dX10_partner_10 ⟨Nat.le_of_ble_eq_true rfl, Nat.le_of_ble_eq_true rfl⟩ (fun r u H locs hw hP hD hS => ?_)
    obtain ⟨rfl, rfl⟩ := hw
    have hP : va_P D vwCl (MW cy a (fun _ => 0) (va_up (fun _ => 0) 13 (0 + 1)) (fun _ _ => 0) (fun _ _ => 0)) H := hP
    have hD : va_D A (MW cy a (fun _ => 0) (va_up (fun _ => 0) 13 (0 + 1)) (fun _ _ => 0) (fun _ _ => 0)) := hD
    exact qret_i hx hb hr hlocks (by simp [a_fld, c_1]) hS dX10_partner_13
theorem dX10_turns_0 : decode cX10_turns 0 = .ok (.aload_n 0, 1) := by decide +kernel
theorem dX10_turns_1 : decode cX10_turns 1 = .ok (.getfield 88, 3) := by decide +kernel
theorem dX10_turns_4 : decode cX10_turns 4 = .ok (.ifCond .ne 10, 3) := by decide +kernel
theorem dX10_turns_7 : decode cX10_turns 7 = .ok (.aload_n 0, 1) := by decide +kernel
theorem dX10_turns_8 : decode cX10_turns 8 = .ok (.ldc 98, 2) := by decide +kernel
set_option maxRecDepth 20000 in
theorem ggX10_turns_X10_finding : GoodIn wsX10_turns wsX10_finding := goodIn_r _ [9, 10, 51, 52, 53, 54, 55, 56, 57, 58, 59, 60, 61, 62, 63, 64, 65, 66, 67, 68, 69, 70, 71, 72, 73, 74, 75, 76, 77, 78, 79, 80] (by decide +kernel) (by decide +kernel)
set_option maxRecDepth 20000 in
theorem gX10_turns_X10_finding : GoodIn wsX10_turns (wsV RX10 99 RX10 yX10_finding wsX10_finding) := goodIn_app (goodIn_of _ (by decide +kernel)) ggX10_turns_X10_finding
theorem dX10_turns_10 : decode cX10_turns 10 = .ok (.invokevirtual 99, 3) := by decide +kernel
theorem dX10_turns_13 : decode cX10_turns 13 = .ok (.ireturn, 1) := by decide +kernel
set_option maxRecDepth 20000 in
theorem ihX10_turns_10 : ∀ w ∈ u_ws RX10 TX10 30, w ∈ wsX10_turns := by decide +kernel
set_option maxHeartbeats 4000000 in
set_option maxRecDepth 100000 in
theorem mp_X10_turns (l : Launch) (D : va_G) (cy : Nat → ClassId) (a : Nat → Nat) (sz : Nat)  : Met l yX10_turns wsX10_turns ({ frames := 1, cells := 0, slots := 0, locals := 21 }) (va_Pc [.ref (a 0)] (PW D cy sz (MW cy a (fun _ => 0) (fun _ => 0) (fun _ _ => 0) (fun _ _ => 0)))) (va_Qi (fun r (_ : Unit) => r = (-100006)) (fun _ _ => True) (va_A (MW cy a (fun _ => 0) (fun _ => 0) (fun _ _ => 0) (fun _ _ => 0)) sz)) 0 0 (va_A (MW cy a (fun _ => 0) (fun _ => 0) (fun _ _ => 0) (fun _ _ => 0)) sz) := by
  refine Met.ofW (cc := cX10_turns) (maxL := 3) (ret := (some .int)) (by decide) rfl ?_
  intro p e s m args below meth c s₁ B hml hv
  obtain ⟨rfl, rfl, hP, hK, hN, hD0⟩ := hv
  have hx := B.exec
  have hb := B.bytes
  have hr := B.returns
  have hts := atoms_spec (ws := wsX10_turns) B.pre
  have hown : s.vm.findClass RX10 = some m.cls := findClass_of_methodNamed B.named
  have hlocks := B.notSynchronized
  have hw0 := hts (.fieldLink RX10 88 "ParquetLayerModel" "isLaid" "Z") (by decide +kernel)
  have hw1 := hts (.constant RX10 98 (-100006)) (by decide +kernel)
  have hi10 := ihX10_turns_10
  have hD := hD0.self (sz := s.heap.size)
  generalize hAe : va_A (MW cy a (fun _ => 0) (fun _ => 0) (fun _ _ => 0) (fun _ _ => 0)) s.heap.size = A at hD ⊢
  have hA : ∀ q : Nat, s.heap.size ≤ q → A q := fun q h => by rw [← hAe]; exact Or.inr h
  have hS : va_S A s.heap s.heap [] := va_S.rf
  have hl := lv_entry ([.ref (a 0)]) (n := 3) (Nat.le_of_ble_eq_true rfl)
  rw [lg_entry_eq]
  generalize (lg_sl ([.ref (a 0)]) ++ List.replicate (3 - (lg_sl ([.ref (a 0)])).length) Slot.unset).toArray = ls at hl ⊢
  have hl : lv_has ls 3 [(0, .ref (a 0))] := hl
  refine lv_aload_n hx hb dX10_turns_0 rfl (lv_at hl 0 rfl) ?_
  refine va_get (D := D) (ci := 9) (v := .int 0) (C := RX10) (T := TX10) (N := 30) hx hb hts hi10 hown hK hP 0 rfl rfl 3 (by decide) hw0 (fun _ h9 => h9) rfl dX10_turns_1 ?_
  refine lv_if_ne (tgt := 14) hx hb dX10_turns_4 (by decide) (fun c_1 => absurd (by decide) c_1) (fun c_1 => ?_)
  refine lv_aload_n hx hb dX10_turns_7 rfl (lv_at hl 0 rfl) ?_
  refine lv_ldc (v := (-100006)) hx hb hown hw1 dX10_turns_8 ?_
  refine kM_i (As := [.int (-100006)]) (rest := []) (q0 := 0) ⟨hx, hb, hml, hown, hts⟩ (c_X10_finding l D cy a _ (fun _ => 0) (fun _ => 0) (fun _ _ => 0) (fun _ _ => 0) (-100006) ) (cwV 1 hts gX10_turns_X10_finding rfl rfl rfl (by decide +kernel) ⟨Nat.le_of_ble_eq_true rfl, Nat.le_of_ble_eq_true rfl⟩) hK hN hP hD hS hA rfl rfl rfl hl.1 rfl (Nat.le_of_ble_eq_true rfl) dX10_turns_10 ⟨Nat.le_of_ble_eq_true rfl, Nat.le_of_ble_eq_true rfl⟩ (fun r u H locs hw hP hD hS => ?_)
  obtain ⟨rfl, rfl⟩ := hw
  have hP : va_P D vwCl (MW cy a (fun _ => 0) (va_up (fun _ => 0) 13 (0 + 1)) (fun _ _ => 0) (fun _ _ => 0)) H := hP
  have hD : va_D A (MW cy a (fun _ => 0) (va_up (fun _ => 0) 13 (0 + 1)) (fun _ _ => 0) (fun _ _ => 0)) := hD
  exact qret_i hx hb hr hlocks rfl hS dX10_turns_13
theorem dX10_turn_0 : decode cX10_turn 0 = .ok (.iload_n 1, 1) := by decide +kernel
set_option maxRecDepth 20000 in
theorem ggX10_turn_X10_isField : GoodIn wsX10_turn wsX10_isField := goodIn_r _ [9, 10, 11, 8, 12] (by decide +kernel) (by decide +kernel)
set_option maxRecDepth 20000 in
theorem gX10_turn_X10_isField : GoodIn wsX10_turn (va_wsS RX10 147 yX10_isField wsX10_isField) := goodIn_app (goodIn_of _ (by decide +kernel)) ggX10_turn_X10_isField
theorem dX10_turn_1 : decode cX10_turn 1 = .ok (.invokestatic 147, 3) := by decide +kernel
theorem dX10_turn_4 : decode cX10_turn 4 = .ok (.ifCond .eq 21, 3) := by decide +kernel
theorem dX10_turn_25 : decode cX10_turn 25 = .ok (.aload_n 0, 1) := by decide +kernel
theorem dX10_turn_26 : decode cX10_turn 26 = .ok (.ldc 141, 2) := by decide +kernel
set_option maxRecDepth 20000 in
theorem ggX10_turn_X10_finding : GoodIn wsX10_turn wsX10_finding := goodIn_r _ [16, 17, 91, 92, 93, 94, 95, 96, 97, 98, 99, 100, 101, 102, 103, 104, 105, 106, 107, 108, 109, 110, 111, 112, 113, 114, 115, 116, 117, 118, 119, 120] (by decide +kernel) (by decide +kernel)
set_option maxRecDepth 20000 in
theorem gX10_turn_X10_finding : GoodIn wsX10_turn (wsV RX10 99 RX10 yX10_finding wsX10_finding) := goodIn_app (goodIn_of _ (by decide +kernel)) ggX10_turn_X10_finding
theorem dX10_turn_28 : decode cX10_turn 28 = .ok (.invokevirtual 99, 3) := by decide +kernel
theorem dX10_turn_31 : decode cX10_turn 31 = .ok (.ireturn, 1) := by decide +kernel
theorem dX10_turn_7 : decode cX10_turn 7 = .ok (.iload_n 1, 1) := by decide +kernel
theorem dX10_turn_8 : decode cX10_turn 8 = .ok (.bipush 8, 2) := by decide +kernel
theorem dX10_turn_10 : decode cX10_turn 10 = .ok (.irem, 1) := by decide +kernel
theorem dX10_turn_11 : decode cX10_turn 11 = .ok (.bipush 6, 2) := by decide +kernel
theorem dX10_turn_13 : decode cX10_turn 13 = .ok (.if_icmp .gt 12, 3) := by decide +kernel
theorem dX10_turn_16 : decode cX10_turn 16 = .ok (.iload_n 1, 1) := by decide +kernel
theorem dX10_turn_17 : decode cX10_turn 17 = .ok (.bipush 8, 2) := by decide +kernel
theorem dX10_turn_19 : decode cX10_turn 19 = .ok (.idiv, 1) := by decide +kernel
theorem dX10_turn_20 : decode cX10_turn 20 = .ok (.bipush 6, 2) := by decide +kernel
theorem dX10_turn_22 : decode cX10_turn 22 = .ok (.if_icmp .le 10, 3) := by decide +kernel
theorem dX10_turn_32 : decode cX10_turn 32 = .ok (.aload_n 0, 1) := by decide +kernel
set_option maxRecDepth 20000 in
theorem ggX10_turn_X10_findGlued : GoodIn wsX10_turn wsX10_findGlued := goodIn_r _ [21, 22, 23, 24, 25, 26, 27, 28, 8, 29, 30, 31, 32, 33, 34, 35, 36, 37, 38, 39, 40, 41, 42, 43, 44, 45, 46, 47, 48, 49, 50, 91, 92, 93, 94, 95, 96, 97, 98, 99, 100, 101, 102, 103, 104, 105, 106, 107, 108, 109, 110, 111, 112, 113, 114, 115, 116, 117, 118, 119, 120] (by decide +kernel) (by decide +kernel)
set_option maxRecDepth 20000 in
theorem gX10_turn_X10_findGlued : GoodIn wsX10_turn (wsV RX10 201 RX10 yX10_findGlued wsX10_findGlued) := goodIn_app (goodIn_of _ (by decide +kernel)) ggX10_turn_X10_findGlued
theorem dX10_turn_33 : decode cX10_turn 33 = .ok (.invokevirtual 201, 3) := by decide +kernel
theorem dX10_turn_36 : decode cX10_turn 36 = .ok (.aload_n 0, 1) := by decide +kernel
theorem dX10_turn_37 : decode cX10_turn 37 = .ok (.getfield 88, 3) := by decide +kernel
theorem dX10_turn_40 : decode cX10_turn 40 = .ok (.ifCond .eq 19, 3) := by decide +kernel
theorem dX10_turn_59 : decode cX10_turn 59 = .ok (.iconst 0, 1) := by decide +kernel
theorem dX10_turn_60 : decode cX10_turn 60 = .ok (.istore_n 2, 1) := by decide +kernel
theorem dX10_turn_61 : decode cX10_turn 61 = .ok (.iload_n 2, 1) := by decide +kernel
theorem dX10_turn_62 : decode cX10_turn 62 = .ok (.ifCond .ne 10, 3) := by decide +kernel
theorem dX10_turn_65 : decode cX10_turn 65 = .ok (.aload_n 0, 1) := by decide +kernel
theorem dX10_turn_66 : decode cX10_turn 66 = .ok (.ldc 98, 2) := by decide +kernel
theorem dX10_turn_68 : decode cX10_turn 68 = .ok (.invokevirtual 99, 3) := by decide +kernel
theorem dX10_turn_71 : decode cX10_turn 71 = .ok (.ireturn, 1) := by decide +kernel
set_option maxRecDepth 20000 in
theorem ihX10_turn_10 : ∀ w ∈ u_ws RX10 TX10 30, w ∈ wsX10_turn := by decide +kernel
set_option maxHeartbeats 4000000 in
set_option maxRecDepth 100000 in
theorem mp_X10_turn (l : Launch) (D : va_G) (cy : Nat → ClassId) (a : Nat → Nat) (sz : Nat) (x0 : Int32) : Met l yX10_turn wsX10_turn ({ frames := 2, cells := 0, slots := 0, locals := 42 }) (va_Pc [.ref (a 0), .int x0] (PW D cy sz (MW cy a (fun _ => 0) (fun _ => 0) (fun _ _ => 0) (fun _ _ => 0)))) (va_Qi (fun r (_ : Unit) => r = a_turn x0) (fun _ _ => True) (va_A (MW cy a (fun _ => 0) (fun _ => 0) (fun _ _ => 0) (fun _ _ => 0)) sz)) 0 0 (va_A (MW cy a (fun _ => 0) (fun _ => 0) (fun _ _ => 0) (fun _ _ => 0)) sz) := by
  refine Met.ofW (cc := cX10_turn) (maxL := 3) (ret := (some .int)) (by decide) rfl ?_
  intro p e s m args below meth c s₁ B hml hv
  obtain ⟨rfl, rfl, hP, hK, hN, hD0⟩ := hv
  have hx := B.exec
  have hb := B.bytes
  have hr := B.returns
  have hts := atoms_spec (ws := wsX10_turn) B.pre
  have hown : s.vm.findClass RX10 = some m.cls := findClass_of_methodNamed B.named
  have hlocks := B.notSynchronized
  have hw0 := hts (.constant RX10 141 (-100001)) (by decide +kernel)
  have hw1 := hts (.fieldLink RX10 88 "ParquetLayerModel" "isLaid" "Z") (by decide +kernel)
  have hw2 := hts (.constant RX10 98 (-100006)) (by decide +kernel)
  have hi10 := ihX10_turn_10
  have hD := hD0.self (sz := s.heap.size)
  generalize hAe : va_A (MW cy a (fun _ => 0) (fun _ => 0) (fun _ _ => 0) (fun _ _ => 0)) s.heap.size = A at hD ⊢
  have hA : ∀ q : Nat, s.heap.size ≤ q → A q := fun q h => by rw [← hAe]; exact Or.inr h
  have hS : va_S A s.heap s.heap [] := va_S.rf
  have hl := lv_entry ([.ref (a 0), .int x0]) (n := 3) (Nat.le_of_ble_eq_true rfl)
  rw [lg_entry_eq]
  generalize (lg_sl ([.ref (a 0), .int x0]) ++ List.replicate (3 - (lg_sl ([.ref (a 0), .int x0])).length) Slot.unset).toArray = ls at hl ⊢
  have hl : lv_has ls 3 [(0, .ref (a 0)), (1, .int x0)] := hl
  refine lv_iload_n hx hb dX10_turn_0 rfl (lv_at hl 1 rfl) ?_
  refine kS_i (As := [.int x0]) (rest := []) ⟨hx, hb, hml, hown, hts⟩ (c_X10_isField l x0) (va_cwS 1 hts gX10_turn_X10_isField rfl rfl rfl (by decide +kernel) ⟨Nat.le_of_ble_eq_true rfl, Nat.le_of_ble_eq_true rfl⟩) rfl hl.1 rfl (Nat.le_of_ble_eq_true rfl) dX10_turn_1 ⟨Nat.le_of_ble_eq_true rfl, Nat.le_of_ble_eq_true rfl⟩ ?_
  refine lv_if_eq (tgt := 25) hx hb dX10_turn_4 (by decide) (fun c_1 => ?_) (fun c_1 => ?_)
  · replace c_1 := bI_f c_1
    refine lv_aload_n hx hb dX10_turn_25 rfl (lv_at hl 0 rfl) ?_
    refine lv_ldc (v := (-100001)) hx hb hown hw0 dX10_turn_26 ?_
    refine kM_i (As := [.int (-100001)]) (rest := []) (q0 := 0) ⟨hx, hb, hml, hown, hts⟩ (c_X10_finding l D cy a _ (fun _ => 0) (fun _ => 0) (fun _ _ => 0) (fun _ _ => 0) (-100001) ) (cwV 1 hts gX10_turn_X10_finding rfl rfl rfl (by decide +kernel) ⟨Nat.le_of_ble_eq_true rfl, Nat.le_of_ble_eq_true rfl⟩) hK hN hP hD hS hA rfl rfl rfl hl.1 rfl (Nat.le_of_ble_eq_true rfl) dX10_turn_28 ⟨Nat.le_of_ble_eq_true rfl, Nat.le_of_ble_eq_true rfl⟩ (fun r u H locs hw hP hD hS => ?_)
    obtain ⟨rfl, rfl⟩ := hw
    have hP : va_P D vwCl (MW cy a (fun _ => 0) (va_up (fun _ => 0) 13 (0 + 1)) (fun _ _ => 0) (fun _ _ => 0)) H := hP
    have hD : va_D A (MW cy a (fun _ => 0) (va_up (fun _ => 0) 13 (0 + 1)) (fun _ _ => 0) (fun _ _ => 0)) := hD
    exact qret_i hx hb hr hlocks (by simp_all [a_turn]) hS dX10_turn_31
  · replace c_1 := bI_t c_1
    refine lv_iload_n hx hb dX10_turn_7 rfl (lv_at hl 1 rfl) ?_
    refine lv_bipush (v := 8) hx hb dX10_turn_8 (by decide) ?_
    refine lv_irem hx hb dX10_turn_10 (by decide) ?_
    refine lv_bipush (v := 6) hx hb dX10_turn_11 (by decide) ?_
    refine lv_icmp_gt (tgt := 25) hx hb dX10_turn_13 (by decide) (fun c_2 => ?_) (fun c_2 => ?_)
    · refine lv_aload_n hx hb dX10_turn_25 rfl (lv_at hl 0 rfl) ?_
      refine lv_ldc (v := (-100001)) hx hb hown hw0 dX10_turn_26 ?_
      refine kM_i (As := [.int (-100001)]) (rest := []) (q0 := 0) ⟨hx, hb, hml, hown, hts⟩ (c_X10_finding l D cy a _ (fun _ => 0) (fun _ => 0) (fun _ _ => 0) (fun _ _ => 0) (-100001) ) (cwV 1 hts gX10_turn_X10_finding rfl rfl rfl (by decide +kernel) ⟨Nat.le_of_ble_eq_true rfl, Nat.le_of_ble_eq_true rfl⟩) hK hN hP hD hS hA rfl rfl rfl hl.1 rfl (Nat.le_of_ble_eq_true rfl) dX10_turn_28 ⟨Nat.le_of_ble_eq_true rfl, Nat.le_of_ble_eq_true rfl⟩ (fun r u H locs hw hP hD hS => ?_)
      obtain ⟨rfl, rfl⟩ := hw
      have hP : va_P D vwCl (MW cy a (fun _ => 0) (va_up (fun _ => 0) 13 (0 + 1)) (fun _ _ => 0) (fun _ _ => 0)) H := hP
      have hD : va_D A (MW cy a (fun _ => 0) (va_up (fun _ => 0) 13 (0 + 1)) (fun _ _ => 0) (fun _ _ => 0)) := hD
      exact qret_i hx hb hr hlocks (by simp_all [a_turn]) hS dX10_turn_31
    · refine lv_iload_n hx hb dX10_turn_16 rfl (lv_at hl 1 rfl) ?_
      refine lv_bipush (v := 8) hx hb dX10_turn_17 (by decide) ?_
      refine lv_idiv hx hb dX10_turn_19 (by decide) ?_
      refine lv_bipush (v := 6) hx hb dX10_turn_20 (by decide) ?_
      refine lv_icmp_le (tgt := 32) hx hb dX10_turn_22 (by decide) (fun c_3 => ?_) (fun c_3 => ?_)
      · refine lv_aload_n hx hb dX10_turn_32 rfl (lv_at hl 0 rfl) ?_
        refine kM_v (As := []) (rest := []) (q0 := 0) ⟨hx, hb, hml, hown, hts⟩ (c_X10_findGlued l D cy a _   ) (cwV 0 hts gX10_turn_X10_findGlued rfl rfl rfl (by decide +kernel) ⟨Nat.le_of_ble_eq_true rfl, Nat.le_of_ble_eq_true rfl⟩) hK hN hP hD hS hA rfl rfl rfl hl.1 rfl (Nat.le_of_ble_eq_true rfl) dX10_turn_33 ⟨Nat.le_of_ble_eq_true rfl, Nat.le_of_ble_eq_true rfl⟩ (fun u H locs hw hP hD hS => ?_)
        obtain rfl := hw
        have hP : va_P D vwCl (MW cy a (fun _ => 0) (fun _ => 0) (fun _ _ => 0) (fun _ _ => 0)) H := hP
        have hD : va_D A (MW cy a (fun _ => 0) (fun _ => 0) (fun _ _ => 0) (fun _ _ => 0)) := hD
        refine lv_aload_n hx hb dX10_turn_36 rfl (lv_at hl 0 rfl) ?_
        refine va_get (D := D) (ci := 9) (v := .int 0) (C := RX10) (T := TX10) (N := 30) hx hb hts hi10 hown hK hP 0 rfl rfl 3 (by decide) hw1 (fun _ h9 => h9) rfl dX10_turn_37 ?_
        refine lv_if_eq (tgt := 59) hx hb dX10_turn_40 (by decide) (fun c_4 => ?_) (fun c_4 => absurd (by decide) c_4)
        refine lv_iconst (v := 0) hx hb dX10_turn_59 (by decide) ?_
        refine lv_istore_n (lv' := [(2, .int 0), (0, .ref (a 0)), (1, .int x0)]) hx hb dX10_turn_60 rfl hl (by decide) rfl (fun ls hl => ?_)
        refine lv_iload_n hx hb dX10_turn_61 rfl (lv_at hl 0 rfl) ?_
        refine lv_if_ne (tgt := 72) hx hb dX10_turn_62 (by decide) (fun c_5 => absurd (by decide) c_5) (fun c_5 => ?_)
        refine lv_aload_n hx hb dX10_turn_65 rfl (lv_at hl 1 rfl) ?_
        refine lv_ldc (v := (-100006)) hx hb hown hw2 dX10_turn_66 ?_
        refine kM_i (As := [.int (-100006)]) (rest := []) (q0 := 0) ⟨hx, hb, hml, hown, hts⟩ (c_X10_finding l D cy a _ (fun _ => 0) (fun _ => 0) (fun _ _ => 0) (fun _ _ => 0) (-100006) ) (cwV 1 hts gX10_turn_X10_finding rfl rfl rfl (by decide +kernel) ⟨Nat.le_of_ble_eq_true rfl, Nat.le_of_ble_eq_true rfl⟩) hK hN hP hD hS hA rfl rfl rfl hl.1 rfl (Nat.le_of_ble_eq_true rfl) dX10_turn_68 ⟨Nat.le_of_ble_eq_true rfl, Nat.le_of_ble_eq_true rfl⟩ (fun r u H locs hw hP hD hS => ?_)
        obtain ⟨rfl, rfl⟩ := hw
        have hP : va_P D vwCl (MW cy a (fun _ => 0) (va_up (fun _ => 0) 13 (0 + 1)) (fun _ _ => 0) (fun _ _ => 0)) H := hP
        have hD : va_D A (MW cy a (fun _ => 0) (va_up (fun _ => 0) 13 (0 + 1)) (fun _ _ => 0) (fun _ _ => 0)) := hD
        exact qret_i hx hb hr hlocks (by simp_all [a_turn]) hS dX10_turn_71
      · refine lv_aload_n hx hb dX10_turn_25 rfl (lv_at hl 0 rfl) ?_
        refine lv_ldc (v := (-100001)) hx hb hown hw0 dX10_turn_26 ?_
        refine kM_i (As := [.int (-100001)]) (rest := []) (q0 := 0) ⟨hx, hb, hml, hown, hts⟩ (c_X10_finding l D cy a _ (fun _ => 0) (fun _ => 0) (fun _ _ => 0) (fun _ _ => 0) (-100001) ) (cwV 1 hts gX10_turn_X10_finding rfl rfl rfl (by decide +kernel) ⟨Nat.le_of_ble_eq_true rfl, Nat.le_of_ble_eq_true rfl⟩) hK hN hP hD hS hA rfl rfl rfl hl.1 rfl (Nat.le_of_ble_eq_true rfl) dX10_turn_28 ⟨Nat.le_of_ble_eq_true rfl, Nat.le_of_ble_eq_true rfl⟩ (fun r u H locs hw hP hD hS => ?_)
        obtain ⟨rfl, rfl⟩ := hw
        have hP : va_P D vwCl (MW cy a (fun _ => 0) (va_up (fun _ => 0) 13 (0 + 1)) (fun _ _ => 0) (fun _ _ => 0)) H := hP
        have hD : va_D A (MW cy a (fun _ => 0) (va_up (fun _ => 0) 13 (0 + 1)) (fun _ _ => 0) (fun _ _ => 0)) := hD
        exact qret_i hx hb hr hlocks (by simp_all [a_turn]) hS dX10_turn_31
theorem dX10_height_0 : decode cX10_height 0 = .ok (.aload_n 0, 1) := by decide +kernel
set_option maxRecDepth 20000 in
theorem ggX10_height_X10_isWhole : GoodIn wsX10_height wsX10_isWhole := goodIn_r _ [11, 12, 13, 14, 15, 10, 16, 17, 18, 19, 20, 21, 22, 23, 24, 25, 26, 27, 28, 29, 30, 31, 32, 33, 34, 35, 36, 37, 38, 39, 40, 41, 42, 43, 44, 45, 46, 47, 76, 77, 78, 79, 80, 81, 82, 83, 84, 85, 86, 87, 88, 89, 90, 91, 92, 93, 94, 95, 96, 97, 98, 99, 100, 101, 102, 103, 104, 105] (by decide +kernel) (by decide +kernel)
set_option maxRecDepth 20000 in
theorem gX10_height_X10_isWhole : GoodIn wsX10_height (wsV RX10 172 RX10 yX10_isWhole wsX10_isWhole) := goodIn_app (goodIn_of _ (by decide +kernel)) ggX10_height_X10_isWhole
theorem dX10_height_1 : decode cX10_height 1 = .ok (.invokevirtual 172, 3) := by decide +kernel
theorem dX10_height_4 : decode cX10_height 4 = .ok (.ifCond .ne 10, 3) := by decide +kernel
theorem dX10_height_7 : decode cX10_height 7 = .ok (.aload_n 0, 1) := by decide +kernel
theorem dX10_height_8 : decode cX10_height 8 = .ok (.ldc 133, 2) := by decide +kernel
set_option maxRecDepth 20000 in
theorem ggX10_height_X10_finding : GoodIn wsX10_height wsX10_finding := goodIn_r _ [51, 52, 76, 77, 78, 79, 80, 81, 82, 83, 84, 85, 86, 87, 88, 89, 90, 91, 92, 93, 94, 95, 96, 97, 98, 99, 100, 101, 102, 103, 104, 105] (by decide +kernel) (by decide +kernel)
set_option maxRecDepth 20000 in
theorem gX10_height_X10_finding : GoodIn wsX10_height (wsV RX10 99 RX10 yX10_finding wsX10_finding) := goodIn_app (goodIn_of _ (by decide +kernel)) ggX10_height_X10_finding
theorem dX10_height_10 : decode cX10_height 10 = .ok (.invokevirtual 99, 3) := by decide +kernel
theorem dX10_height_13 : decode cX10_height 13 = .ok (.ireturn, 1) := by decide +kernel
set_option maxHeartbeats 4000000 in
set_option maxRecDepth 100000 in
theorem mp_X10_height (l : Launch) (D : va_G) (cy : Nat → ClassId) (a : Nat → Nat) (sz : Nat) (x0 : Int32) (x1 : Int32) : Met l yX10_height wsX10_height ({ frames := 1, cells := 0, slots := 0, locals := 21 }) (va_Pc [.ref (a 0), .int x0, .int x1] (PW D cy sz (MW cy a (fun _ => 0) (fun _ => 0) (fun _ _ => 0) (fun _ _ => 0)))) (va_Qi (fun r (_ : Unit) => r = (-100004)) (fun _ _ => True) (va_A (MW cy a (fun _ => 0) (fun _ => 0) (fun _ _ => 0) (fun _ _ => 0)) sz)) 0 0 (va_A (MW cy a (fun _ => 0) (fun _ => 0) (fun _ _ => 0) (fun _ _ => 0)) sz) := by
  refine Met.ofW (cc := cX10_height) (maxL := 3) (ret := (some .int)) (by decide) rfl ?_
  intro p e s m args below meth c s₁ B hml hv
  obtain ⟨rfl, rfl, hP, hK, hN, hD0⟩ := hv
  have hx := B.exec
  have hb := B.bytes
  have hr := B.returns
  have hts := atoms_spec (ws := wsX10_height) B.pre
  have hown : s.vm.findClass RX10 = some m.cls := findClass_of_methodNamed B.named
  have hlocks := B.notSynchronized
  have hw0 := hts (.constant RX10 133 (-100004)) (by decide +kernel)
  have hD := hD0.self (sz := s.heap.size)
  generalize hAe : va_A (MW cy a (fun _ => 0) (fun _ => 0) (fun _ _ => 0) (fun _ _ => 0)) s.heap.size = A at hD ⊢
  have hA : ∀ q : Nat, s.heap.size ≤ q → A q := fun q h => by rw [← hAe]; exact Or.inr h
  have hS : va_S A s.heap s.heap [] := va_S.rf
  have hl := lv_entry ([.ref (a 0), .int x0, .int x1]) (n := 3) (Nat.le_of_ble_eq_true rfl)
  rw [lg_entry_eq]
  generalize (lg_sl ([.ref (a 0), .int x0, .int x1]) ++ List.replicate (3 - (lg_sl ([.ref (a 0), .int x0, .int x1])).length) Slot.unset).toArray = ls at hl ⊢
  have hl : lv_has ls 3 [(0, .ref (a 0)), (1, .int x0), (2, .int x1)] := hl
  refine lv_aload_n hx hb dX10_height_0 rfl (lv_at hl 0 rfl) ?_
  refine kR_i (As := []) (rest := []) (q0 := 0) ⟨hx, hb, hml, hown, hts⟩ (c_X10_isWhole l D cy a _   ) (cwV 0 hts gX10_height_X10_isWhole rfl rfl rfl (by decide +kernel) ⟨Nat.le_of_ble_eq_true rfl, Nat.le_of_ble_eq_true rfl⟩) hK hN hP hD rfl rfl rfl hl.1 rfl (Nat.le_of_ble_eq_true rfl) dX10_height_1 ⟨Nat.le_of_ble_eq_true rfl, Nat.le_of_ble_eq_true rfl⟩ ?_
  refine lv_if_ne (tgt := 14) hx hb dX10_height_4 (by decide) (fun c_1 => absurd (by decide) c_1) (fun c_1 => ?_)
  refine lv_aload_n hx hb dX10_height_7 rfl (lv_at hl 0 rfl) ?_
  refine lv_ldc (v := (-100004)) hx hb hown hw0 dX10_height_8 ?_
  refine kM_i (As := [.int (-100004)]) (rest := []) (q0 := 0) ⟨hx, hb, hml, hown, hts⟩ (c_X10_finding l D cy a _ (fun _ => 0) (fun _ => 0) (fun _ _ => 0) (fun _ _ => 0) (-100004) ) (cwV 1 hts gX10_height_X10_finding rfl rfl rfl (by decide +kernel) ⟨Nat.le_of_ble_eq_true rfl, Nat.le_of_ble_eq_true rfl⟩) hK hN hP hD hS hA rfl rfl rfl hl.1 rfl (Nat.le_of_ble_eq_true rfl) dX10_height_10 ⟨Nat.le_of_ble_eq_true rfl, Nat.le_of_ble_eq_true rfl⟩ (fun r u H locs hw hP hD hS => ?_)
  obtain ⟨rfl, rfl⟩ := hw
  have hP : va_P D vwCl (MW cy a (fun _ => 0) (va_up (fun _ => 0) 13 (0 + 1)) (fun _ _ => 0) (fun _ _ => 0)) H := hP
  have hD : va_D A (MW cy a (fun _ => 0) (va_up (fun _ => 0) 13 (0 + 1)) (fun _ _ => 0) (fun _ _ => 0)) := hD
  exact qret_i hx hb hr hlocks rfl hS dX10_height_13
theorem dX10_extreme_0 : decode cX10_extreme 0 = .ok (.aload_n 0, 1) := by decide +kernel
set_option maxRecDepth 20000 in
theorem ggX10_extreme_X10_isWhole : GoodIn wsX10_extreme wsX10_isWhole := goodIn_r _ [9, 10, 11, 12, 13, 8, 14, 15, 16, 17, 18, 19, 20, 21, 22, 23, 24, 25, 26, 27, 28, 29, 30, 31, 32, 33, 34, 35, 36, 37, 38, 39, 40, 41, 42, 43, 44, 45, 116, 117, 118, 119, 120, 121, 122, 123, 124, 125, 126, 127, 128, 129, 130, 131, 132, 133, 134, 135, 136, 137, 138, 139, 140, 141, 142, 143, 144, 145] (by decide +kernel) (by decide +kernel)
set_option maxRecDepth 20000 in
theorem gX10_extreme_X10_isWhole : GoodIn wsX10_extreme (wsV RX10 172 RX10 yX10_isWhole wsX10_isWhole) := goodIn_app (goodIn_of _ (by decide +kernel)) ggX10_extreme_X10_isWhole
theorem dX10_extreme_1 : decode cX10_extreme 1 = .ok (.invokevirtual 172, 3) := by decide +kernel
theorem dX10_extreme_4 : decode cX10_extreme 4 = .ok (.ifCond .ne 10, 3) := by decide +kernel
theorem dX10_extreme_7 : decode cX10_extreme 7 = .ok (.aload_n 0, 1) := by decide +kernel
theorem dX10_extreme_8 : decode cX10_extreme 8 = .ok (.ldc 133, 2) := by decide +kernel
set_option maxRecDepth 20000 in
theorem ggX10_extreme_X10_finding : GoodIn wsX10_extreme wsX10_finding := goodIn_r _ [49, 50, 116, 117, 118, 119, 120, 121, 122, 123, 124, 125, 126, 127, 128, 129, 130, 131, 132, 133, 134, 135, 136, 137, 138, 139, 140, 141, 142, 143, 144, 145] (by decide +kernel) (by decide +kernel)
set_option maxRecDepth 20000 in
theorem gX10_extreme_X10_finding : GoodIn wsX10_extreme (wsV RX10 99 RX10 yX10_finding wsX10_finding) := goodIn_app (goodIn_of _ (by decide +kernel)) ggX10_extreme_X10_finding
theorem dX10_extreme_10 : decode cX10_extreme 10 = .ok (.invokevirtual 99, 3) := by decide +kernel
theorem dX10_extreme_13 : decode cX10_extreme 13 = .ok (.ireturn, 1) := by decide +kernel
set_option maxHeartbeats 4000000 in
set_option maxRecDepth 100000 in
theorem mp_X10_extreme (l : Launch) (D : va_G) (cy : Nat → ClassId) (a : Nat → Nat) (sz : Nat) (x0 : Bool) : Met l yX10_extreme wsX10_extreme ({ frames := 1, cells := 0, slots := 0, locals := 21 }) (va_Pc [.ref (a 0), .int (bI x0)] (PW D cy sz (MW cy a (fun _ => 0) (fun _ => 0) (fun _ _ => 0) (fun _ _ => 0)))) (va_Qi (fun r (_ : Unit) => r = (-100004)) (fun _ _ => True) (va_A (MW cy a (fun _ => 0) (fun _ => 0) (fun _ _ => 0) (fun _ _ => 0)) sz)) 0 0 (va_A (MW cy a (fun _ => 0) (fun _ => 0) (fun _ _ => 0) (fun _ _ => 0)) sz) := by
  refine Met.ofW (cc := cX10_extreme) (maxL := 5) (ret := (some .int)) (by decide) rfl ?_
  intro p e s m args below meth c s₁ B hml hv
  obtain ⟨rfl, rfl, hP, hK, hN, hD0⟩ := hv
  have hx := B.exec
  have hb := B.bytes
  have hr := B.returns
  have hts := atoms_spec (ws := wsX10_extreme) B.pre
  have hown : s.vm.findClass RX10 = some m.cls := findClass_of_methodNamed B.named
  have hlocks := B.notSynchronized
  have hw0 := hts (.constant RX10 133 (-100004)) (by decide +kernel)
  have hD := hD0.self (sz := s.heap.size)
  generalize hAe : va_A (MW cy a (fun _ => 0) (fun _ => 0) (fun _ _ => 0) (fun _ _ => 0)) s.heap.size = A at hD ⊢
  have hA : ∀ q : Nat, s.heap.size ≤ q → A q := fun q h => by rw [← hAe]; exact Or.inr h
  have hS : va_S A s.heap s.heap [] := va_S.rf
  have hl := lv_entry ([.ref (a 0), .int (bI x0)]) (n := 5) (Nat.le_of_ble_eq_true rfl)
  rw [lg_entry_eq]
  generalize (lg_sl ([.ref (a 0), .int (bI x0)]) ++ List.replicate (5 - (lg_sl ([.ref (a 0), .int (bI x0)])).length) Slot.unset).toArray = ls at hl ⊢
  have hl : lv_has ls 5 [(0, .ref (a 0)), (1, .int (bI x0))] := hl
  refine lv_aload_n hx hb dX10_extreme_0 rfl (lv_at hl 0 rfl) ?_
  refine kR_i (As := []) (rest := []) (q0 := 0) ⟨hx, hb, hml, hown, hts⟩ (c_X10_isWhole l D cy a _   ) (cwV 0 hts gX10_extreme_X10_isWhole rfl rfl rfl (by decide +kernel) ⟨Nat.le_of_ble_eq_true rfl, Nat.le_of_ble_eq_true rfl⟩) hK hN hP hD rfl rfl rfl hl.1 rfl (Nat.le_of_ble_eq_true rfl) dX10_extreme_1 ⟨Nat.le_of_ble_eq_true rfl, Nat.le_of_ble_eq_true rfl⟩ ?_
  refine lv_if_ne (tgt := 14) hx hb dX10_extreme_4 (by decide) (fun c_1 => absurd (by decide) c_1) (fun c_1 => ?_)
  refine lv_aload_n hx hb dX10_extreme_7 rfl (lv_at hl 0 rfl) ?_
  refine lv_ldc (v := (-100004)) hx hb hown hw0 dX10_extreme_8 ?_
  refine kM_i (As := [.int (-100004)]) (rest := []) (q0 := 0) ⟨hx, hb, hml, hown, hts⟩ (c_X10_finding l D cy a _ (fun _ => 0) (fun _ => 0) (fun _ _ => 0) (fun _ _ => 0) (-100004) ) (cwV 1 hts gX10_extreme_X10_finding rfl rfl rfl (by decide +kernel) ⟨Nat.le_of_ble_eq_true rfl, Nat.le_of_ble_eq_true rfl⟩) hK hN hP hD hS hA rfl rfl rfl hl.1 rfl (Nat.le_of_ble_eq_true rfl) dX10_extreme_10 ⟨Nat.le_of_ble_eq_true rfl, Nat.le_of_ble_eq_true rfl⟩ (fun r u H locs hw hP hD hS => ?_)
  obtain ⟨rfl, rfl⟩ := hw
  have hP : va_P D vwCl (MW cy a (fun _ => 0) (va_up (fun _ => 0) 13 (0 + 1)) (fun _ _ => 0) (fun _ _ => 0)) H := hP
  have hD : va_D A (MW cy a (fun _ => 0) (va_up (fun _ => 0) 13 (0 + 1)) (fun _ _ => 0) (fun _ _ => 0)) := hD
  exact qret_i hx hb hr hlocks rfl hS dX10_extreme_13
theorem dX10_against_0 : decode cX10_against 0 = .ok (.aload_n 0, 1) := by decide +kernel
set_option maxRecDepth 20000 in
theorem ggX10_against_X10_isWhole : GoodIn wsX10_against wsX10_isWhole := goodIn_r _ [11, 12, 13, 14, 15, 10, 16, 17, 18, 19, 20, 21, 22, 23, 24, 25, 26, 27, 28, 29, 30, 31, 32, 33, 34, 35, 36, 37, 38, 39, 40, 41, 42, 43, 44, 45, 46, 47, 116, 117, 118, 119, 120, 121, 122, 123, 124, 125, 126, 127, 128, 129, 130, 131, 132, 133, 134, 135, 136, 137, 138, 139, 140, 141, 142, 143, 144, 145] (by decide +kernel) (by decide +kernel)
set_option maxRecDepth 20000 in
theorem gX10_against_X10_isWhole : GoodIn wsX10_against (wsV RX10 172 RX10 yX10_isWhole wsX10_isWhole) := goodIn_app (goodIn_of _ (by decide +kernel)) ggX10_against_X10_isWhole
theorem dX10_against_1 : decode cX10_against 1 = .ok (.invokevirtual 172, 3) := by decide +kernel
theorem dX10_against_4 : decode cX10_against 4 = .ok (.ifCond .ne 6, 3) := by decide +kernel
theorem dX10_against_7 : decode cX10_against 7 = .ok (.ldc 133, 2) := by decide +kernel
theorem dX10_against_9 : decode cX10_against 9 = .ok (.ireturn, 1) := by decide +kernel
set_option maxHeartbeats 4000000 in
set_option maxRecDepth 100000 in
theorem c_X10_against (l : Launch) (D : va_G) (cy : Nat → ClassId) (a : Nat → Nat) (sz : Nat)  (x0 : Int32) (x1 : Int32) : Met l yX10_against wsX10_against ({ frames := 1, cells := 0, slots := 0, locals := 20 }) (va_Pc [.ref (a 0), .int x0, .int x1] (PW D cy sz (MW cy a (fun _ => 0) (fun _ => 0) (fun _ _ => 0) (fun _ _ => 0)))) (vp_Si (fun r => r = (-100004))) 0 0 (fun _ => False) := by
  refine Met.ofW (cc := cX10_against) (maxL := 4) (ret := (some .int)) (by decide) rfl ?_
  intro p e s m args below meth c s₁ B hml hv
  obtain ⟨rfl, rfl, hP, hK, hN, hD0⟩ := hv
  have hx := B.exec
  have hb := B.bytes
  have hr := B.returns
  have hts := atoms_spec (ws := wsX10_against) B.pre
  have hown : s.vm.findClass RX10 = some m.cls := findClass_of_methodNamed B.named
  have hlocks := B.notSynchronized
  have hw0 := hts (.constant RX10 133 (-100004)) (by decide +kernel)
  have hD := hD0
  have hl := lv_entry ([.ref (a 0), .int x0, .int x1]) (n := 4) (Nat.le_of_ble_eq_true rfl)
  rw [lg_entry_eq]
  generalize (lg_sl ([.ref (a 0), .int x0, .int x1]) ++ List.replicate (4 - (lg_sl ([.ref (a 0), .int x0, .int x1])).length) Slot.unset).toArray = ls at hl ⊢
  have hl : lv_has ls 4 [(0, .ref (a 0)), (1, .int x0), (2, .int x1)] := hl
  refine lv_aload_n hx hb dX10_against_0 rfl (lv_at hl 0 rfl) ?_
  refine kR_i (As := []) (rest := []) (q0 := 0) ⟨hx, hb, hml, hown, hts⟩ (c_X10_isWhole l D cy a _   ) (cwV 0 hts gX10_against_X10_isWhole rfl rfl rfl (by decide +kernel) ⟨Nat.le_of_ble_eq_true rfl, Nat.le_of_ble_eq_true rfl⟩) hK hN hP hD rfl rfl rfl hl.1 rfl (Nat.le_of_ble_eq_true rfl) dX10_against_1 ⟨Nat.le_of_ble_eq_true rfl, Nat.le_of_ble_eq_true rfl⟩ ?_
  refine lv_if_ne (tgt := 10) hx hb dX10_against_4 (by decide) (fun c_1 => absurd (by decide) c_1) (fun c_1 => ?_)
  refine lv_ldc (v := (-100004)) hx hb hown hw0 dX10_against_7 ?_
  exact pret_i hx hb hr hlocks rfl dX10_against_9
theorem dX10_apart_0 : decode cX10_apart 0 = .ok (.aload_n 0, 1) := by decide +kernel
theorem dX10_apart_1 : decode cX10_apart 1 = .ok (.iload_n 1, 1) := by decide +kernel
theorem dX10_apart_2 : decode cX10_apart 2 = .ok (.iload_n 2, 1) := by decide +kernel
set_option maxRecDepth 20000 in
theorem ggX10_apart_X10_against : GoodIn wsX10_apart wsX10_against := goodIn_r _ [5, 6, 7, 8, 9, 10, 11, 12, 13, 14, 4, 15, 16, 17, 18, 19, 20, 21, 22, 23, 24, 25, 26, 27, 28, 29, 30, 31, 32, 33, 34, 35, 36, 37, 38, 39, 40, 41, 42, 43, 44, 45, 46, 47, 48, 49, 50, 51, 52, 53, 54, 55, 56, 57, 58, 59, 60, 61, 62, 63, 64, 65, 66, 67, 68, 69, 70, 71, 72, 73, 74, 75, 76, 77, 78, 79, 80, 81, 82, 83, 84, 85, 86, 87, 88, 89, 90, 91, 92, 93, 94, 95, 96, 97, 98, 99, 100, 101, 102, 103, 104, 105, 106, 107, 108, 109, 110, 111, 112, 113, 114, 115, 116, 117, 118, 119, 133, 134, 135, 136, 137, 138, 139, 140, 141, 142, 143, 144, 145, 146, 147, 148, 149, 150, 151, 152, 153, 154, 155, 156, 157, 158, 159, 160, 161, 162] (by decide +kernel) (by decide +kernel)
set_option maxRecDepth 20000 in
theorem gX10_apart_X10_against : GoodIn wsX10_apart (wsV RX10 268 RX10 yX10_against wsX10_against) := goodIn_app (goodIn_of _ (by decide +kernel)) ggX10_apart_X10_against
theorem dX10_apart_3 : decode cX10_apart 3 = .ok (.invokevirtual 268, 3) := by decide +kernel
theorem dX10_apart_6 : decode cX10_apart 6 = .ok (.istore_n 3, 1) := by decide +kernel
theorem dX10_apart_7 : decode cX10_apart 7 = .ok (.iload_n 3, 1) := by decide +kernel
theorem dX10_apart_8 : decode cX10_apart 8 = .ok (.ifCond .eq 11, 3) := by decide +kernel
theorem dX10_apart_11 : decode cX10_apart 11 = .ok (.aload_n 0, 1) := by decide +kernel
theorem dX10_apart_12 : decode cX10_apart 12 = .ok (.iload_n 3, 1) := by decide +kernel
set_option maxRecDepth 20000 in
theorem ggX10_apart_X10_finding : GoodIn wsX10_apart wsX10_finding := goodIn_r _ [123, 124, 133, 134, 135, 136, 137, 138, 139, 140, 141, 142, 143, 144, 145, 146, 147, 148, 149, 150, 151, 152, 153, 154, 155, 156, 157, 158, 159, 160, 161, 162] (by decide +kernel) (by decide +kernel)
set_option maxRecDepth 20000 in
theorem gX10_apart_X10_finding : GoodIn wsX10_apart (wsV RX10 99 RX10 yX10_finding wsX10_finding) := goodIn_app (goodIn_of _ (by decide +kernel)) ggX10_apart_X10_finding
theorem dX10_apart_13 : decode cX10_apart 13 = .ok (.invokevirtual 99, 3) := by decide +kernel
theorem dX10_apart_16 : decode cX10_apart 16 = .ok (.goto 7, 3) := by decide +kernel
theorem dX10_apart_23 : decode cX10_apart 23 = .ok (.ireturn, 1) := by decide +kernel
set_option maxHeartbeats 4000000 in
set_option maxRecDepth 100000 in
theorem mp_X10_apart (l : Launch) (D : va_G) (cy : Nat → ClassId) (a : Nat → Nat) (sz : Nat) (x0 : Int32) (x1 : Int32) : Met l yX10_apart wsX10_apart ({ frames := 2, cells := 0, slots := 0, locals := 43 }) (va_Pc [.ref (a 0), .int x0, .int x1] (PW D cy sz (MW cy a (fun _ => 0) (fun _ => 0) (fun _ _ => 0) (fun _ _ => 0)))) (va_Qi (fun r (_ : Unit) => r = (-100004)) (fun _ _ => True) (va_A (MW cy a (fun _ => 0) (fun _ => 0) (fun _ _ => 0) (fun _ _ => 0)) sz)) 0 0 (va_A (MW cy a (fun _ => 0) (fun _ => 0) (fun _ _ => 0) (fun _ _ => 0)) sz) := by
  refine Met.ofW (cc := cX10_apart) (maxL := 4) (ret := (some .int)) (by decide) rfl ?_
  intro p e s m args below meth c s₁ B hml hv
  obtain ⟨rfl, rfl, hP, hK, hN, hD0⟩ := hv
  have hx := B.exec
  have hb := B.bytes
  have hr := B.returns
  have hts := atoms_spec (ws := wsX10_apart) B.pre
  have hown : s.vm.findClass RX10 = some m.cls := findClass_of_methodNamed B.named
  have hlocks := B.notSynchronized
  have hD := hD0.self (sz := s.heap.size)
  generalize hAe : va_A (MW cy a (fun _ => 0) (fun _ => 0) (fun _ _ => 0) (fun _ _ => 0)) s.heap.size = A at hD ⊢
  have hA : ∀ q : Nat, s.heap.size ≤ q → A q := fun q h => by rw [← hAe]; exact Or.inr h
  have hS : va_S A s.heap s.heap [] := va_S.rf
  have hl := lv_entry ([.ref (a 0), .int x0, .int x1]) (n := 4) (Nat.le_of_ble_eq_true rfl)
  rw [lg_entry_eq]
  generalize (lg_sl ([.ref (a 0), .int x0, .int x1]) ++ List.replicate (4 - (lg_sl ([.ref (a 0), .int x0, .int x1])).length) Slot.unset).toArray = ls at hl ⊢
  have hl : lv_has ls 4 [(0, .ref (a 0)), (1, .int x0), (2, .int x1)] := hl
  refine lv_aload_n hx hb dX10_apart_0 rfl (lv_at hl 0 rfl) ?_
  refine lv_iload_n hx hb dX10_apart_1 rfl (lv_at hl 1 rfl) ?_
  refine lv_iload_n hx hb dX10_apart_2 rfl (lv_at hl 2 rfl) ?_
  refine kR_i (As := [.int x0, .int x1]) (rest := []) (q0 := 0) ⟨hx, hb, hml, hown, hts⟩ (c_X10_against l D cy a _  x0 x1 ) (cwV 2 hts gX10_apart_X10_against rfl rfl rfl (by decide +kernel) ⟨Nat.le_of_ble_eq_true rfl, Nat.le_of_ble_eq_true rfl⟩) hK hN hP hD rfl rfl rfl hl.1 rfl (Nat.le_of_ble_eq_true rfl) dX10_apart_3 ⟨Nat.le_of_ble_eq_true rfl, Nat.le_of_ble_eq_true rfl⟩ ?_
  refine lv_istore_n (lv' := [(3, .int (-100004)), (0, .ref (a 0)), (1, .int x0), (2, .int x1)]) hx hb dX10_apart_6 rfl hl (by decide) rfl (fun ls hl => ?_)
  refine lv_iload_n hx hb dX10_apart_7 rfl (lv_at hl 0 rfl) ?_
  refine lv_if_eq (tgt := 19) hx hb dX10_apart_8 (by decide) (fun c_1 => absurd c_1 (by decide)) (fun c_1 => ?_)
  refine lv_aload_n hx hb dX10_apart_11 rfl (lv_at hl 1 rfl) ?_
  refine lv_iload_n hx hb dX10_apart_12 rfl (lv_at hl 0 rfl) ?_
  refine kM_i (As := [.int (-100004)]) (rest := []) (q0 := 0) ⟨hx, hb, hml, hown, hts⟩ (c_X10_finding l D cy a _ (fun _ => 0) (fun _ => 0) (fun _ _ => 0) (fun _ _ => 0) (-100004) ) (cwV 1 hts gX10_apart_X10_finding rfl rfl rfl (by decide +kernel) ⟨Nat.le_of_ble_eq_true rfl, Nat.le_of_ble_eq_true rfl⟩) hK hN hP hD hS hA rfl rfl rfl hl.1 rfl (Nat.le_of_ble_eq_true rfl) dX10_apart_13 ⟨Nat.le_of_ble_eq_true rfl, Nat.le_of_ble_eq_true rfl⟩ (fun r u H locs hw hP hD hS => ?_)
  obtain ⟨rfl, rfl⟩ := hw
  have hP : va_P D vwCl (MW cy a (fun _ => 0) (va_up (fun _ => 0) 13 (0 + 1)) (fun _ _ => 0) (fun _ _ => 0)) H := hP
  have hD : va_D A (MW cy a (fun _ => 0) (va_up (fun _ => 0) 13 (0 + 1)) (fun _ _ => 0) (fun _ _ => 0)) := hD
  refine lv_goto (tgt := 23) hx hb dX10_apart_16 (by decide) ?_
  exact qret_i hx hb hr hlocks rfl hS dX10_apart_23
theorem dX10_step_0 : decode cX10_step 0 = .ok (.aload_n 0, 1) := by decide +kernel
theorem dX10_step_1 : decode cX10_step 1 = .ok (.iload_n 1, 1) := by decide +kernel
theorem dX10_step_2 : decode cX10_step 2 = .ok (.iload_n 2, 1) := by decide +kernel
set_option maxRecDepth 20000 in
theorem ggX10_step_X10_against : GoodIn wsX10_step wsX10_against := goodIn_r _ [9, 10, 11, 2, 3, 12, 4, 13, 14, 15, 8, 16, 17, 18, 19, 20, 21, 22, 23, 24, 25, 26, 27, 28, 29, 30, 31, 32, 33, 34, 35, 36, 37, 38, 39, 40, 41, 42, 43, 44, 45, 46, 47, 48, 49, 50, 51, 52, 53, 54, 55, 56, 57, 58, 59, 60, 61, 62, 63, 64, 65, 66, 67, 68, 69, 70, 71, 72, 73, 74, 75, 76, 77, 78, 79, 80, 81, 82, 83, 84, 85, 86, 87, 88, 89, 90, 91, 92, 93, 94, 95, 96, 97, 98, 99, 100, 101, 102, 103, 104, 105, 106, 107, 108, 109, 110, 111, 112, 113, 114, 115, 116, 117, 118, 119, 120, 154, 155, 156, 157, 158, 159, 160, 161, 162, 163, 164, 165, 166, 167, 168, 169, 170, 171, 172, 173, 174, 175, 176, 177, 178, 179, 180, 181, 182, 183] (by decide +kernel) (by decide +kernel)
set_option maxRecDepth 20000 in
theorem gX10_step_X10_against : GoodIn wsX10_step (wsV RX10 268 RX10 yX10_against wsX10_against) := goodIn_app (goodIn_of _ (by decide +kernel)) ggX10_step_X10_against
theorem dX10_step_3 : decode cX10_step 3 = .ok (.invokevirtual 268, 3) := by decide +kernel
theorem dX10_step_6 : decode cX10_step 6 = .ok (.istore 4, 2) := by decide +kernel
theorem dX10_step_8 : decode cX10_step 8 = .ok (.iload 4, 2) := by decide +kernel
theorem dX10_step_10 : decode cX10_step 10 = .ok (.ifCond .eq 10, 3) := by decide +kernel
theorem dX10_step_13 : decode cX10_step 13 = .ok (.aload_n 0, 1) := by decide +kernel
theorem dX10_step_14 : decode cX10_step 14 = .ok (.iload 4, 2) := by decide +kernel
set_option maxRecDepth 20000 in
theorem ggX10_step_X10_finding : GoodIn wsX10_step wsX10_finding := goodIn_r _ [124, 125, 154, 155, 156, 157, 158, 159, 160, 161, 162, 163, 164, 165, 166, 167, 168, 169, 170, 171, 172, 173, 174, 175, 176, 177, 178, 179, 180, 181, 182, 183] (by decide +kernel) (by decide +kernel)
set_option maxRecDepth 20000 in
theorem gX10_step_X10_finding : GoodIn wsX10_step (wsV RX10 99 RX10 yX10_finding wsX10_finding) := goodIn_app (goodIn_of _ (by decide +kernel)) ggX10_step_X10_finding
theorem dX10_step_16 : decode cX10_step 16 = .ok (.invokevirtual 99, 3) := by decide +kernel
theorem dX10_step_19 : decode cX10_step 19 = .ok (.ireturn, 1) := by decide +kernel
set_option maxHeartbeats 4000000 in
set_option maxRecDepth 100000 in
theorem mp_X10_step (l : Launch) (D : va_G) (cy : Nat → ClassId) (a : Nat → Nat) (sz : Nat) (x0 : Int32) (x1 : Int32) (x2 : Int32) : Met l yX10_step wsX10_step ({ frames := 2, cells := 0, slots := 0, locals := 43 }) (va_Pc [.ref (a 0), .int x0, .int x1, .int x2] (PW D cy sz (MW cy a (fun _ => 0) (fun _ => 0) (fun _ _ => 0) (fun _ _ => 0)))) (va_Qi (fun r (_ : Unit) => r = (-100004)) (fun _ _ => True) (va_A (MW cy a (fun _ => 0) (fun _ => 0) (fun _ _ => 0) (fun _ _ => 0)) sz)) 0 0 (va_A (MW cy a (fun _ => 0) (fun _ => 0) (fun _ _ => 0) (fun _ _ => 0)) sz) := by
  refine Met.ofW (cc := cX10_step) (maxL := 8) (ret := (some .int)) (by decide) rfl ?_
  intro p e s m args below meth c s₁ B hml hv
  obtain ⟨rfl, rfl, hP, hK, hN, hD0⟩ := hv
  have hx := B.exec
  have hb := B.bytes
  have hr := B.returns
  have hts := atoms_spec (ws := wsX10_step) B.pre
  have hown : s.vm.findClass RX10 = some m.cls := findClass_of_methodNamed B.named
  have hlocks := B.notSynchronized
  have hD := hD0.self (sz := s.heap.size)
  generalize hAe : va_A (MW cy a (fun _ => 0) (fun _ => 0) (fun _ _ => 0) (fun _ _ => 0)) s.heap.size = A at hD ⊢
  have hA : ∀ q : Nat, s.heap.size ≤ q → A q := fun q h => by rw [← hAe]; exact Or.inr h
  have hS : va_S A s.heap s.heap [] := va_S.rf
  have hl := lv_entry ([.ref (a 0), .int x0, .int x1, .int x2]) (n := 8) (Nat.le_of_ble_eq_true rfl)
  rw [lg_entry_eq]
  generalize (lg_sl ([.ref (a 0), .int x0, .int x1, .int x2]) ++ List.replicate (8 - (lg_sl ([.ref (a 0), .int x0, .int x1, .int x2])).length) Slot.unset).toArray = ls at hl ⊢
  have hl : lv_has ls 8 [(0, .ref (a 0)), (1, .int x0), (2, .int x1), (3, .int x2)] := hl
  refine lv_aload_n hx hb dX10_step_0 rfl (lv_at hl 0 rfl) ?_
  refine lv_iload_n hx hb dX10_step_1 rfl (lv_at hl 1 rfl) ?_
  refine lv_iload_n hx hb dX10_step_2 rfl (lv_at hl 2 rfl) ?_
  refine kR_i (As := [.int x0, .int x1]) (rest := []) (q0 := 0) ⟨hx, hb, hml, hown, hts⟩ (c_X10_against l D cy a _  x0 x1 ) (cwV 2 hts gX10_step_X10_against rfl rfl rfl (by decide +kernel) ⟨Nat.le_of_ble_eq_true rfl, Nat.le_of_ble_eq_true rfl⟩) hK hN hP hD rfl rfl rfl hl.1 rfl (Nat.le_of_ble_eq_true rfl) dX10_step_3 ⟨Nat.le_of_ble_eq_true rfl, Nat.le_of_ble_eq_true rfl⟩ ?_
  refine lv_istore (lv' := [(4, .int (-100004)), (0, .ref (a 0)), (1, .int x0), (2, .int x1), (3, .int x2)]) hx hb dX10_step_6 hl (by decide) rfl (fun ls hl => ?_)
  refine lv_iload hx hb dX10_step_8 (lv_at hl 0 rfl) ?_
  refine lv_if_eq (tgt := 20) hx hb dX10_step_10 (by decide) (fun c_1 => absurd c_1 (by decide)) (fun c_1 => ?_)
  refine lv_aload_n hx hb dX10_step_13 rfl (lv_at hl 1 rfl) ?_
  refine lv_iload hx hb dX10_step_14 (lv_at hl 0 rfl) ?_
  refine kM_i (As := [.int (-100004)]) (rest := []) (q0 := 0) ⟨hx, hb, hml, hown, hts⟩ (c_X10_finding l D cy a _ (fun _ => 0) (fun _ => 0) (fun _ _ => 0) (fun _ _ => 0) (-100004) ) (cwV 1 hts gX10_step_X10_finding rfl rfl rfl (by decide +kernel) ⟨Nat.le_of_ble_eq_true rfl, Nat.le_of_ble_eq_true rfl⟩) hK hN hP hD hS hA rfl rfl rfl hl.1 rfl (Nat.le_of_ble_eq_true rfl) dX10_step_16 ⟨Nat.le_of_ble_eq_true rfl, Nat.le_of_ble_eq_true rfl⟩ (fun r u H locs hw hP hD hS => ?_)
  obtain ⟨rfl, rfl⟩ := hw
  have hP : va_P D vwCl (MW cy a (fun _ => 0) (va_up (fun _ => 0) 13 (0 + 1)) (fun _ _ => 0) (fun _ _ => 0)) H := hP
  have hD : va_D A (MW cy a (fun _ => 0) (va_up (fun _ => 0) 13 (0 + 1)) (fun _ _ => 0) (fun _ _ => 0)) := hD
  exact qret_i hx hb hr hlocks rfl hS dX10_step_19
theorem dX10_meet_0 : decode cX10_meet 0 = .ok (.aload_n 0, 1) := by decide +kernel
theorem dX10_meet_1 : decode cX10_meet 1 = .ok (.iload_n 1, 1) := by decide +kernel
theorem dX10_meet_2 : decode cX10_meet 2 = .ok (.iload_n 2, 1) := by decide +kernel
set_option maxRecDepth 20000 in
theorem ggX10_meet_X10_against : GoodIn wsX10_meet wsX10_against := goodIn_r _ [18, 19, 20, 21, 22, 2, 1, 23, 24, 25, 17, 26, 10, 27, 28, 29, 30, 31, 32, 33, 34, 35, 36, 37, 38, 39, 40, 41, 42, 43, 44, 45, 46, 47, 48, 49, 50, 51, 52, 53, 54, 55, 56, 57, 58, 59, 60, 61, 62, 63, 64, 65, 66, 67, 68, 69, 70, 71, 72, 73, 74, 75, 76, 77, 78, 79, 80, 81, 82, 83, 84, 85, 86, 87, 88, 89, 90, 91, 92, 93, 94, 95, 96, 97, 98, 99, 100, 101, 102, 103, 104, 105, 106, 107, 108, 109, 110, 111, 112, 113, 114, 115, 116, 117, 118, 119, 120, 121, 122, 123, 124, 125, 126, 127, 128, 129, 139, 140, 141, 142, 143, 144, 145, 146, 147, 148, 149, 150, 151, 152, 153, 154, 155, 156, 157, 158, 159, 160, 161, 162, 163, 164, 165, 166, 167, 168] (by decide +kernel) (by decide +kernel)
set_option maxRecDepth 20000 in
theorem gX10_meet_X10_against : GoodIn wsX10_meet (wsV RX10 268 RX10 yX10_against wsX10_against) := goodIn_app (goodIn_of _ (by decide +kernel)) ggX10_meet_X10_against
theorem dX10_meet_3 : decode cX10_meet 3 = .ok (.invokevirtual 268, 3) := by decide +kernel
theorem dX10_meet_6 : decode cX10_meet 6 = .ok (.istore 4, 2) := by decide +kernel
theorem dX10_meet_8 : decode cX10_meet 8 = .ok (.iload 4, 2) := by decide +kernel
theorem dX10_meet_10 : decode cX10_meet 10 = .ok (.ifCond .eq 10, 3) := by decide +kernel
theorem dX10_meet_13 : decode cX10_meet 13 = .ok (.aload_n 0, 1) := by decide +kernel
theorem dX10_meet_14 : decode cX10_meet 14 = .ok (.iload 4, 2) := by decide +kernel
set_option maxRecDepth 20000 in
theorem ggX10_meet_X10_finding : GoodIn wsX10_meet wsX10_finding := goodIn_r _ [133, 134, 139, 140, 141, 142, 143, 144, 145, 146, 147, 148, 149, 150, 151, 152, 153, 154, 155, 156, 157, 158, 159, 160, 161, 162, 163, 164, 165, 166, 167, 168] (by decide +kernel) (by decide +kernel)
set_option maxRecDepth 20000 in
theorem gX10_meet_X10_finding : GoodIn wsX10_meet (wsV RX10 99 RX10 yX10_finding wsX10_finding) := goodIn_app (goodIn_of _ (by decide +kernel)) ggX10_meet_X10_finding
theorem dX10_meet_16 : decode cX10_meet 16 = .ok (.invokevirtual 99, 3) := by decide +kernel
theorem dX10_meet_19 : decode cX10_meet 19 = .ok (.ireturn, 1) := by decide +kernel
set_option maxHeartbeats 4000000 in
set_option maxRecDepth 100000 in
theorem mp_X10_meet (l : Launch) (D : va_G) (cy : Nat → ClassId) (a : Nat → Nat) (sz : Nat) (x0 : Int32) (x1 : Int32) (x2 : Bool) : Met l yX10_meet wsX10_meet ({ frames := 2, cells := 0, slots := 0, locals := 43 }) (va_Pc [.ref (a 0), .int x0, .int x1, .int (bI x2)] (PW D cy sz (MW cy a (fun _ => 0) (fun _ => 0) (fun _ _ => 0) (fun _ _ => 0)))) (va_Qi (fun r (_ : Unit) => r = (-100004)) (fun _ _ => True) (va_A (MW cy a (fun _ => 0) (fun _ => 0) (fun _ _ => 0) (fun _ _ => 0)) sz)) 0 0 (va_A (MW cy a (fun _ => 0) (fun _ => 0) (fun _ _ => 0) (fun _ _ => 0)) sz) := by
  refine Met.ofW (cc := cX10_meet) (maxL := 13) (ret := (some .int)) (by decide) rfl ?_
  intro p e s m args below meth c s₁ B hml hv
  obtain ⟨rfl, rfl, hP, hK, hN, hD0⟩ := hv
  have hx := B.exec
  have hb := B.bytes
  have hr := B.returns
  have hts := atoms_spec (ws := wsX10_meet) B.pre
  have hown : s.vm.findClass RX10 = some m.cls := findClass_of_methodNamed B.named
  have hlocks := B.notSynchronized
  have hD := hD0.self (sz := s.heap.size)
  generalize hAe : va_A (MW cy a (fun _ => 0) (fun _ => 0) (fun _ _ => 0) (fun _ _ => 0)) s.heap.size = A at hD ⊢
  have hA : ∀ q : Nat, s.heap.size ≤ q → A q := fun q h => by rw [← hAe]; exact Or.inr h
  have hS : va_S A s.heap s.heap [] := va_S.rf
  have hl := lv_entry ([.ref (a 0), .int x0, .int x1, .int (bI x2)]) (n := 13) (Nat.le_of_ble_eq_true rfl)
  rw [lg_entry_eq]
  generalize (lg_sl ([.ref (a 0), .int x0, .int x1, .int (bI x2)]) ++ List.replicate (13 - (lg_sl ([.ref (a 0), .int x0, .int x1, .int (bI x2)])).length) Slot.unset).toArray = ls at hl ⊢
  have hl : lv_has ls 13 [(0, .ref (a 0)), (1, .int x0), (2, .int x1), (3, .int (bI x2))] := hl
  refine lv_aload_n hx hb dX10_meet_0 rfl (lv_at hl 0 rfl) ?_
  refine lv_iload_n hx hb dX10_meet_1 rfl (lv_at hl 1 rfl) ?_
  refine lv_iload_n hx hb dX10_meet_2 rfl (lv_at hl 2 rfl) ?_
  refine kR_i (As := [.int x0, .int x1]) (rest := []) (q0 := 0) ⟨hx, hb, hml, hown, hts⟩ (c_X10_against l D cy a _  x0 x1 ) (cwV 2 hts gX10_meet_X10_against rfl rfl rfl (by decide +kernel) ⟨Nat.le_of_ble_eq_true rfl, Nat.le_of_ble_eq_true rfl⟩) hK hN hP hD rfl rfl rfl hl.1 rfl (Nat.le_of_ble_eq_true rfl) dX10_meet_3 ⟨Nat.le_of_ble_eq_true rfl, Nat.le_of_ble_eq_true rfl⟩ ?_
  refine lv_istore (lv' := [(4, .int (-100004)), (0, .ref (a 0)), (1, .int x0), (2, .int x1), (3, .int (bI x2))]) hx hb dX10_meet_6 hl (by decide) rfl (fun ls hl => ?_)
  refine lv_iload hx hb dX10_meet_8 (lv_at hl 0 rfl) ?_
  refine lv_if_eq (tgt := 20) hx hb dX10_meet_10 (by decide) (fun c_1 => absurd c_1 (by decide)) (fun c_1 => ?_)
  refine lv_aload_n hx hb dX10_meet_13 rfl (lv_at hl 1 rfl) ?_
  refine lv_iload hx hb dX10_meet_14 (lv_at hl 0 rfl) ?_
  refine kM_i (As := [.int (-100004)]) (rest := []) (q0 := 0) ⟨hx, hb, hml, hown, hts⟩ (c_X10_finding l D cy a _ (fun _ => 0) (fun _ => 0) (fun _ _ => 0) (fun _ _ => 0) (-100004) ) (cwV 1 hts gX10_meet_X10_finding rfl rfl rfl (by decide +kernel) ⟨Nat.le_of_ble_eq_true rfl, Nat.le_of_ble_eq_true rfl⟩) hK hN hP hD hS hA rfl rfl rfl hl.1 rfl (Nat.le_of_ble_eq_true rfl) dX10_meet_16 ⟨Nat.le_of_ble_eq_true rfl, Nat.le_of_ble_eq_true rfl⟩ (fun r u H locs hw hP hD hS => ?_)
  obtain ⟨rfl, rfl⟩ := hw
  have hP : va_P D vwCl (MW cy a (fun _ => 0) (va_up (fun _ => 0) 13 (0 + 1)) (fun _ _ => 0) (fun _ _ => 0)) H := hP
  have hD : va_D A (MW cy a (fun _ => 0) (va_up (fun _ => 0) 13 (0 + 1)) (fun _ _ => 0) (fun _ _ => 0)) := hD
  exact qret_i hx hb hr hlocks rfl hS dX10_meet_19
theorem dX10_isDarkField_0 : decode cX10_isDarkField 0 = .ok (.aload_n 0, 1) := by decide +kernel
theorem dX10_isDarkField_1 : decode cX10_isDarkField 1 = .ok (.getfield 81, 3) := by decide +kernel
theorem dX10_isDarkField_4 : decode cX10_isDarkField 4 = .ok (.iload_n 1, 1) := by decide +kernel
set_option maxRecDepth 20000 in
theorem ggX10_isDarkField_X10_hasBit : GoodIn wsX10_isDarkField wsX10_hasBit := goodIn_r _ [5] (by decide +kernel) (by decide +kernel)
set_option maxRecDepth 20000 in
theorem gX10_isDarkField_X10_hasBit : GoodIn wsX10_isDarkField (va_wsS RX10 74 yX10_hasBit wsX10_hasBit) := goodIn_app (goodIn_of _ (by decide +kernel)) ggX10_isDarkField_X10_hasBit
theorem dX10_isDarkField_5 : decode cX10_isDarkField 5 = .ok (.invokestatic 74, 3) := by decide +kernel
theorem dX10_isDarkField_8 : decode cX10_isDarkField 8 = .ok (.ifCond .eq 21, 3) := by decide +kernel
theorem dX10_isDarkField_29 : decode cX10_isDarkField 29 = .ok (.iconst 0, 1) := by decide +kernel
theorem dX10_isDarkField_30 : decode cX10_isDarkField 30 = .ok (.ireturn, 1) := by decide +kernel
set_option maxRecDepth 20000 in
theorem ihX10_isDarkField_10 : ∀ w ∈ u_ws RX10 TX10 30, w ∈ wsX10_isDarkField := by decide +kernel
set_option maxHeartbeats 4000000 in
set_option maxRecDepth 100000 in
theorem c_X10_isDarkField (l : Launch) (D : va_G) (cy : Nat → ClassId) (a : Nat → Nat) (sz : Nat) (R : Nat → Nat → Int32) (x0 : Int32) : Met l yX10_isDarkField wsX10_isDarkField ({ frames := 1, cells := 0, slots := 0, locals := 22 }) (va_Pc [.ref (a 0), .int x0] (PW D cy sz (MW cy a (fun _ => 0) (fun _ => 0) R (fun _ _ => 0)))) (vp_Si (fun r => r = bI (false))) 0 0 (fun _ => False) := by
  refine Met.ofW (cc := cX10_isDarkField) (maxL := 2) (ret := (some .boolean)) (by decide) rfl ?_
  intro p e s m args below meth c s₁ B hml hv
  obtain ⟨rfl, rfl, hP, hK, hN, hD0⟩ := hv
  have hx := B.exec
  have hb := B.bytes
  have hr := B.returns
  have hts := atoms_spec (ws := wsX10_isDarkField) B.pre
  have hown : s.vm.findClass RX10 = some m.cls := findClass_of_methodNamed B.named
  have hlocks := B.notSynchronized
  have hw0 := hts (.fieldLink RX10 81 "ParquetLayerModel" "floor" "J") (by decide +kernel)
  have hi10 := ihX10_isDarkField_10
  have hD := hD0
  have hl := lv_entry ([.ref (a 0), .int x0]) (n := 2) (Nat.le_of_ble_eq_true rfl)
  rw [lg_entry_eq]
  generalize (lg_sl ([.ref (a 0), .int x0]) ++ List.replicate (2 - (lg_sl ([.ref (a 0), .int x0])).length) Slot.unset).toArray = ls at hl ⊢
  have hl : lv_has ls 2 [(0, .ref (a 0)), (1, .int x0)] := hl
  refine lv_aload_n hx hb dX10_isDarkField_0 rfl (lv_at hl 0 rfl) ?_
  refine va_get (D := D) (ci := 9) (v := .long 0) (C := RX10) (T := TX10) (N := 30) hx hb hts hi10 hown hK hP 0 rfl rfl 0 (by decide) hw0 (fun _ h9 => h9) rfl dX10_isDarkField_1 ?_
  refine lv_iload_n hx hb dX10_isDarkField_4 rfl (lv_at hl 1 rfl) ?_
  refine kS_i (As := [.long 0, .int x0]) (rest := []) ⟨hx, hb, hml, hown, hts⟩ (c_X10_hasBit l 0 x0) (va_cwS 2 hts gX10_isDarkField_X10_hasBit rfl rfl rfl (by decide +kernel) ⟨Nat.le_of_ble_eq_true rfl, Nat.le_of_ble_eq_true rfl⟩) rfl hl.1 rfl (Nat.le_of_ble_eq_true rfl) dX10_isDarkField_5 ⟨Nat.le_of_ble_eq_true rfl, Nat.le_of_ble_eq_true rfl⟩ ?_
  refine lv_if_eq (tgt := 29) hx hb dX10_isDarkField_8 (by decide) (fun c_1 => ?_) (fun c_1 => absurd (by rw [m_hasBit0]; rfl) c_1)
  refine lv_iconst (v := 0) hx hb dX10_isDarkField_29 (by decide) ?_
  exact pret_z hx hb hr hlocks rfl dX10_isDarkField_30
theorem dX10_match_25 : decode cX10_match 25 = .ok (.iload_n 2, 1) := by decide +kernel
theorem dX10_match_26 : decode cX10_match 26 = .ok (.bipush 64, 2) := by decide +kernel
theorem dX10_match_28 : decode cX10_match 28 = .ok (.if_icmp .ge 81, 3) := by decide +kernel
theorem dX10_match_109 : decode cX10_match 109 = .ok (.iload_n 1, 1) := by decide +kernel
theorem dX10_match_110 : decode cX10_match 110 = .ok (.ireturn, 1) := by decide +kernel
theorem dX10_match_31 : decode cX10_match 31 = .ok (.aload_n 0, 1) := by decide +kernel
theorem dX10_match_32 : decode cX10_match 32 = .ok (.iload_n 2, 1) := by decide +kernel
set_option maxRecDepth 20000 in
theorem ggX10_match_X10_isDarkField : GoodIn wsX10_match wsX10_isDarkField := goodIn_r _ [7, 8, 9, 10, 6, 11, 12, 13, 14, 26, 27, 28, 29, 30, 31, 32, 33, 34, 35, 36, 37, 38, 39, 40, 41, 42, 43, 44, 45, 46, 47, 48, 49, 50, 51, 52, 53, 54, 55] (by decide +kernel) (by decide +kernel)
set_option maxRecDepth 20000 in
theorem gX10_match_X10_isDarkField : GoodIn wsX10_match (wsV RX10 286 RX10 yX10_isDarkField wsX10_isDarkField) := goodIn_app (goodIn_of _ (by decide +kernel)) ggX10_match_X10_isDarkField
theorem dX10_match_33 : decode cX10_match 33 = .ok (.invokevirtual 286, 3) := by decide +kernel
theorem dX10_match_36 : decode cX10_match 36 = .ok (.ifCond .ne 6, 3) := by decide +kernel
theorem dX10_match_39 : decode cX10_match 39 = .ok (.goto 64, 3) := by decide +kernel
theorem dX10_match_103 : decode cX10_match 103 = .ok (.iinc 2 1, 3) := by decide +kernel
theorem dX10_match_106 : decode cX10_match 106 = .ok (.goto (-81), 3) := by decide +kernel
theorem dX10_match_2 : decode cX10_match 2 = .ok (.iload_n 1, 1) := by decide +kernel
theorem dX10_match_3 : decode cX10_match 3 = .ok (.bipush 64, 2) := by decide +kernel
theorem dX10_match_5 : decode cX10_match 5 = .ok (.if_icmp .ge 16, 3) := by decide +kernel
theorem dX10_match_21 : decode cX10_match 21 = .ok (.iconst 0, 1) := by decide +kernel
theorem dX10_match_22 : decode cX10_match 22 = .ok (.istore_n 1, 1) := by decide +kernel
theorem dX10_match_23 : decode cX10_match 23 = .ok (.iconst 0, 1) := by decide +kernel
theorem dX10_match_24 : decode cX10_match 24 = .ok (.istore_n 2, 1) := by decide +kernel
theorem dX10_match_8 : decode cX10_match 8 = .ok (.aload_n 0, 1) := by decide +kernel
theorem dX10_match_9 : decode cX10_match 9 = .ok (.getfield 54, 3) := by decide +kernel
theorem dX10_match_12 : decode cX10_match 12 = .ok (.iload_n 1, 1) := by decide +kernel
theorem dX10_match_13 : decode cX10_match 13 = .ok (.iconst (-1), 1) := by decide +kernel
theorem dX10_match_14 : decode cX10_match 14 = .ok (.iastore, 1) := by decide +kernel
theorem dX10_match_15 : decode cX10_match 15 = .ok (.iinc 1 1, 3) := by decide +kernel
theorem dX10_match_18 : decode cX10_match 18 = .ok (.goto (-16), 3) := by decide +kernel
theorem dX10_match_0 : decode cX10_match 0 = .ok (.iconst 0, 1) := by decide +kernel
theorem dX10_match_1 : decode cX10_match 1 = .ok (.istore_n 1, 1) := by decide +kernel
set_option maxRecDepth 20000 in
theorem ihX10_match_10 : ∀ w ∈ u_ws RX10 TX10 30, w ∈ wsX10_match := by decide +kernel
set_option maxHeartbeats 4000000 in
set_option maxRecDepth 100000 in
theorem hv_X10_match (l : Launch) (D : va_G) (cy : Nat → ClassId) (a : Nat → Nat) (sz : Nat)   : Met l yX10_match wsX10_match ({ frames := 2, cells := 0, slots := 0, locals := 43 }) (va_Pc [.ref (a 0)] (PW D cy sz (MW cy a (fun _ => 0) (fun _ => 0) (fun _ _ => 0) (fun _ _ => 0)))) (va_Qi (fun r (u : MS) => r = 0 ∧ u.1 = (fun _ => 0) ∧ u.2.1 = (fun _ => 0) ∧ u.2.2.2 = (fun _ _ => 0)) (BW D (va_A (MW cy a (fun _ => 0) (fun _ => 0) (fun _ _ => 0) (fun _ _ => 0)) sz) (MWu cy a)) (va_A (MW cy a (fun _ => 0) (fun _ => 0) (fun _ _ => 0) (fun _ _ => 0)) sz)) 0 0 (va_A (MW cy a (fun _ => 0) (fun _ => 0) (fun _ _ => 0) (fun _ _ => 0)) sz) := by
  refine Met.ofW (cc := cX10_match) (maxL := 6) (ret := (some .int)) (by decide) rfl ?_
  intro p e s m args below meth c s₁ B hml hv
  obtain ⟨rfl, rfl, hP, hK, hN, hD0⟩ := hv
  have hx := B.exec
  have hb := B.bytes
  have hr := B.returns
  have hts := atoms_spec (ws := wsX10_match) B.pre
  have hown : s.vm.findClass RX10 = some m.cls := findClass_of_methodNamed B.named
  have hlocks := B.notSynchronized
  have hw0 := hts (.fieldLink RX10 54 "ParquetLayerModel" "mate" "[I") (by decide +kernel)
  have hi10 := ihX10_match_10
  have hD := hD0.self (sz := s.heap.size)
  generalize hAe : va_A (MW cy a (fun _ => 0) (fun _ => 0) (fun _ _ => 0) (fun _ _ => 0)) s.heap.size = A at hD ⊢
  have hA : ∀ q : Nat, s.heap.size ≤ q → A q := fun q h => by rw [← hAe]; exact Or.inr h
  have hS : va_S A s.heap s.heap [] := va_S.rf
  have hl := lv_entry ([.ref (a 0)]) (n := 6) (Nat.le_of_ble_eq_true rfl)
  rw [lg_entry_eq]
  generalize (lg_sl ([.ref (a 0)]) ++ List.replicate (6 - (lg_sl ([.ref (a 0)])).length) Slot.unset).toArray = ls at hl ⊢
  have hl : lv_has ls 6 [(0, .ref (a 0))] := hl
  have lp25 : ∀ (n25 : Nat), ∀ (i : Nat) (R1 : Nat → Nat → Int32), (i ≤ 64) → (64 - i) < n25 → ∀ (H : Heap) (locs : List Loc), va_P D vwCl (MW cy a (fun _ => 0) (fun _ => 0) R1 (fun _ _ => 0)) H → va_D A (MW cy a (fun _ => 0) (fun _ => 0) R1 (fun _ _ => 0)) → va_S A s.heap H locs → ∀ (ls : Array Slot), lv_has ls 6 [(0, .ref (a 0)), (1, .int 0), (2, .int (nI i))] → W p l e (headSpec wsX10_match ({ frames := 2, cells := 0, slots := 0, locals := 43 })).room s m ([.ref (a 0)] : List Value).toArray below meth c H locs 0 0 (MQ below (va_Qi (fun r (u : MS) => r = 0 ∧ u.1 = (fun _ => 0) ∧ u.2.1 = (fun _ => 0) ∧ u.2.2.2 = (fun _ _ => 0)) (BW D A (MWu cy a)) A) ([.ref (a 0)] : List Value).toArray s 0 0 A) (F0 m 25 ls []) := by
    intro n25
    induction n25 with
    | zero => intro i R1 hi hn; exact absurd hn (Nat.not_lt_zero _)
    | succ n25 ih25 =>
      intro i R1 hi hn25 H locs hP hD hS ls hl
      refine lv_iload_n hx hb dX10_match_25 rfl (lv_at hl 2 rfl) ?_
      refine lv_bipush (v := 64) hx hb dX10_match_26 (by decide) ?_
      refine lv_icmp_ge (tgt := 109) hx hb dX10_match_28 (by decide) (fun c_1 => ?_) (fun c_1 => ?_)
      · have hie := ctr_ge (N := 64) (by decide) hi c_1
        subst hie
        refine lv_iload_n hx hb dX10_match_109 rfl (lv_at hl 1 rfl) ?_
        exact wret_i hx hb hr hlocks ((fun _ => 0), (fun _ => 0), R1, (fun _ _ => 0)) ⟨rfl, rfl, rfl, rfl⟩ hP hD hS dX10_match_110
      · have hlt := ctr_lt (N := 64) (by decide) hi c_1
        refine lv_aload_n hx hb dX10_match_31 rfl (lv_at hl 0 rfl) ?_
        refine lv_iload_n hx hb dX10_match_32 rfl (lv_at hl 2 rfl) ?_
        refine kR_i (As := [.int (nI i)]) (rest := []) (q0 := 0) ⟨hx, hb, hml, hown, hts⟩ (c_X10_isDarkField l D cy a _ R1 (nI i) ) (cwV 1 hts gX10_match_X10_isDarkField rfl rfl rfl (by decide +kernel) ⟨Nat.le_of_ble_eq_true rfl, Nat.le_of_ble_eq_true rfl⟩) hK hN hP hD rfl rfl rfl hl.1 rfl (Nat.le_of_ble_eq_true rfl) dX10_match_33 ⟨Nat.le_of_ble_eq_true rfl, Nat.le_of_ble_eq_true rfl⟩ ?_
        refine lv_if_ne (tgt := 42) hx hb dX10_match_36 (by decide) (fun c_2 => absurd (by decide) c_2) (fun c_2 => ?_)
        refine lv_goto (tgt := 103) hx hb dX10_match_39 (by decide) ?_
        refine lv_iinc (v := nI (i + 1)) (lv' := [(2, .int (nI (i + 1))), (0, .ref (a 0)), (1, .int 0)]) hx hb dX10_match_103 hl (k := 2) rfl (nI_1 _) (by decide) rfl (fun ls hl => ?_)
        refine lv_goto (tgt := 25) hx hb dX10_match_106 (by decide) ?_
        exact ih25 (i + 1) R1 (by omega) (by omega) _ _ hP hD hS ls (lv_sub hl [1, 2, 0] rfl)
  have lp2 : ∀ (n2 : Nat), ∀ (i : Nat) (R1 : Nat → Nat → Int32), (i ≤ 64) → (64 - i) < n2 → ∀ (H : Heap) (locs : List Loc), va_P D vwCl (MW cy a (fun _ => 0) (fun _ => 0) R1 (fun _ _ => 0)) H → va_D A (MW cy a (fun _ => 0) (fun _ => 0) R1 (fun _ _ => 0)) → va_S A s.heap H locs → ∀ (ls : Array Slot), lv_has ls 6 [(0, .ref (a 0)), (1, .int (nI i))] → W p l e (headSpec wsX10_match ({ frames := 2, cells := 0, slots := 0, locals := 43 })).room s m ([.ref (a 0)] : List Value).toArray below meth c H locs 0 0 (MQ below (va_Qi (fun r (u : MS) => r = 0 ∧ u.1 = (fun _ => 0) ∧ u.2.1 = (fun _ => 0) ∧ u.2.2.2 = (fun _ _ => 0)) (BW D A (MWu cy a)) A) ([.ref (a 0)] : List Value).toArray s 0 0 A) (F0 m 2 ls []) := by
    intro n2
    induction n2 with
    | zero => intro i R1 hi hn; exact absurd hn (Nat.not_lt_zero _)
    | succ n2 ih2 =>
      intro i R1 hi hn2 H locs hP hD hS ls hl
      refine lv_iload_n hx hb dX10_match_2 rfl (lv_at hl 1 rfl) ?_
      refine lv_bipush (v := 64) hx hb dX10_match_3 (by decide) ?_
      refine lv_icmp_ge (tgt := 21) hx hb dX10_match_5 (by decide) (fun c_3 => ?_) (fun c_3 => ?_)
      · have hie := ctr_ge (N := 64) (by decide) hi c_3
        subst hie
        refine lv_iconst (v := 0) hx hb dX10_match_21 (by decide) ?_
        refine lv_istore_n (lv' := [(1, .int 0), (0, .ref (a 0))]) hx hb dX10_match_22 rfl hl (by decide) rfl (fun ls hl => ?_)
        refine lv_iconst (v := 0) hx hb dX10_match_23 (by decide) ?_
        refine lv_istore_n (lv' := [(2, .int 0), (1, .int 0), (0, .ref (a 0))]) hx hb dX10_match_24 rfl hl (by decide) rfl (fun ls hl => ?_)
        exact lp25 _ 0 R1 (by omega) (Nat.lt_succ_self _) _ _ hP hD hS ls (lv_sub hl [2, 1, 0] rfl)
      · have hlt := ctr_lt (N := 64) (by decide) hi c_3
        refine lv_aload_n hx hb dX10_match_8 rfl (lv_at hl 0 rfl) ?_
        refine va_get (D := D) (ci := 9) (v := .ref (a 15)) (C := RX10) (T := TX10) (N := 30) hx hb hts hi10 hown hK hP 0 rfl rfl 26 (by decide) hw0 (fun _ h9 => h9) rfl dX10_match_9 ?_
        refine lv_iload_n hx hb dX10_match_12 rfl (lv_at hl 1 rfl) ?_
        refine lv_iconst (v := (-1)) hx hb dX10_match_13 (by decide) ?_
        refine va_iast hx hb hK hP hD hS 15 0 rfl rfl (vp_in_nI (by omega) (by decide)) dX10_match_14 (fun H locs hP hD hS => ?_)
        have hP : va_P D vwCl (MW cy a (fun _ => 0) (fun _ => 0) (va_up R1 15 (upd (R1 15) (nI i).toNatClampNeg (-1))) (fun _ _ => 0)) H := hP
        have hD : va_D A (MW cy a (fun _ => 0) (fun _ => 0) (va_up R1 15 (upd (R1 15) (nI i).toNatClampNeg (-1))) (fun _ _ => 0)) := hD
        refine lv_iinc (v := nI (i + 1)) (lv' := [(1, .int (nI (i + 1))), (0, .ref (a 0))]) hx hb dX10_match_15 hl (k := 1) rfl (nI_1 _) (by decide) rfl (fun ls hl => ?_)
        refine lv_goto (tgt := 2) hx hb dX10_match_18 (by decide) ?_
        exact ih2 (i + 1) (va_up R1 15 (upd (R1 15) (nI i).toNatClampNeg (-1))) (by omega) (by omega) _ _ hP hD hS ls (lv_sub hl [1, 0] rfl)
  refine lv_iconst (v := 0) hx hb dX10_match_0 (by decide) ?_
  refine lv_istore_n (lv' := [(1, .int 0), (0, .ref (a 0))]) hx hb dX10_match_1 rfl hl (by decide) rfl (fun ls hl => ?_)
  exact lp2 _ 0 (fun _ _ => 0) (by omega) (Nat.lt_succ_self _) _ _ hP hD hS ls (lv_sub hl [1, 0] rfl)
theorem dX10_spreadFrom_61 : decode cX10_spreadFrom 61 = .ok (.iload_n 3, 1) := by decide +kernel
theorem dX10_spreadFrom_62 : decode cX10_spreadFrom 62 = .ok (.bipush 64, 2) := by decide +kernel
theorem dX10_spreadFrom_64 : decode cX10_spreadFrom 64 = .ok (.if_icmp .ge 123, 3) := by decide +kernel
theorem dX10_spreadFrom_187 : decode cX10_spreadFrom 187 = .ok (.goto (-134), 3) := by decide +kernel
theorem dX10_spreadFrom_53 : decode cX10_spreadFrom 53 = .ok (.iload_n 2, 1) := by decide +kernel
theorem dX10_spreadFrom_54 : decode cX10_spreadFrom 54 = .ok (.ifCond .eq 136, 3) := by decide +kernel
theorem dX10_spreadFrom_190 : decode cX10_spreadFrom 190 = .ok (.iconst (-1), 1) := by decide +kernel
theorem dX10_spreadFrom_191 : decode cX10_spreadFrom 191 = .ok (.ireturn, 1) := by decide +kernel
theorem dX10_spreadFrom_67 : decode cX10_spreadFrom 67 = .ok (.iconst 0, 1) := by decide +kernel
theorem dX10_spreadFrom_68 : decode cX10_spreadFrom 68 = .ok (.istore 4, 2) := by decide +kernel
theorem dX10_spreadFrom_70 : decode cX10_spreadFrom 70 = .ok (.iload 4, 2) := by decide +kernel
theorem dX10_spreadFrom_72 : decode cX10_spreadFrom 72 = .ok (.iconst 4, 1) := by decide +kernel
theorem dX10_spreadFrom_73 : decode cX10_spreadFrom 73 = .ok (.if_icmp .ge 108, 3) := by decide +kernel
theorem dX10_spreadFrom_76 : decode cX10_spreadFrom 76 = .ok (.aload_n 0, 1) := by decide +kernel
theorem dX10_spreadFrom_77 : decode cX10_spreadFrom 77 = .ok (.getfield 57, 3) := by decide +kernel
theorem dX10_spreadFrom_80 : decode cX10_spreadFrom 80 = .ok (.iload_n 3, 1) := by decide +kernel
theorem dX10_spreadFrom_81 : decode cX10_spreadFrom 81 = .ok (.baload, 1) := by decide +kernel
theorem dX10_spreadFrom_82 : decode cX10_spreadFrom 82 = .ok (.ifCond .eq 99, 3) := by decide +kernel
theorem dX10_spreadFrom_181 : decode cX10_spreadFrom 181 = .ok (.iinc 3 1, 3) := by decide +kernel
theorem dX10_spreadFrom_184 : decode cX10_spreadFrom 184 = .ok (.goto (-123), 3) := by decide +kernel
theorem dX10_spreadFrom_85 : decode cX10_spreadFrom 85 = .ok (.aload_n 0, 1) := by decide +kernel
theorem dX10_spreadFrom_86 : decode cX10_spreadFrom 86 = .ok (.iload_n 3, 1) := by decide +kernel
set_option maxRecDepth 20000 in
theorem ggX10_spreadFrom_X10_isDarkField : GoodIn wsX10_spreadFrom wsX10_isDarkField := goodIn_r _ [9, 3, 10, 11, 8, 12, 13, 14, 15, 22, 23, 24, 25, 26, 27, 28, 29, 30, 31, 32, 33, 34, 35, 36, 37, 38, 39, 40, 41, 42, 43, 44, 45, 46, 47, 48, 49, 50, 51] (by decide +kernel) (by decide +kernel)
set_option maxRecDepth 20000 in
theorem gX10_spreadFrom_X10_isDarkField : GoodIn wsX10_spreadFrom (wsV RX10 286 RX10 yX10_isDarkField wsX10_isDarkField) := goodIn_app (goodIn_of _ (by decide +kernel)) ggX10_spreadFrom_X10_isDarkField
theorem dX10_spreadFrom_87 : decode cX10_spreadFrom 87 = .ok (.invokevirtual 286, 3) := by decide +kernel
theorem dX10_spreadFrom_90 : decode cX10_spreadFrom 90 = .ok (.ifCond .eq 91, 3) := by decide +kernel
theorem dX10_spreadFrom_2 : decode cX10_spreadFrom 2 = .ok (.iload_n 2, 1) := by decide +kernel
theorem dX10_spreadFrom_3 : decode cX10_spreadFrom 3 = .ok (.bipush 64, 2) := by decide +kernel
theorem dX10_spreadFrom_5 : decode cX10_spreadFrom 5 = .ok (.if_icmp .ge 46, 3) := by decide +kernel
theorem dX10_spreadFrom_51 : decode cX10_spreadFrom 51 = .ok (.iconst 1, 1) := by decide +kernel
theorem dX10_spreadFrom_52 : decode cX10_spreadFrom 52 = .ok (.istore_n 2, 1) := by decide +kernel
theorem dX10_spreadFrom_57 : decode cX10_spreadFrom 57 = .ok (.iconst 0, 1) := by decide +kernel
theorem dX10_spreadFrom_58 : decode cX10_spreadFrom 58 = .ok (.istore_n 2, 1) := by decide +kernel
theorem dX10_spreadFrom_59 : decode cX10_spreadFrom 59 = .ok (.iconst 0, 1) := by decide +kernel
theorem dX10_spreadFrom_60 : decode cX10_spreadFrom 60 = .ok (.istore_n 3, 1) := by decide +kernel
theorem dX10_spreadFrom_8 : decode cX10_spreadFrom 8 = .ok (.aload_n 0, 1) := by decide +kernel
theorem dX10_spreadFrom_9 : decode cX10_spreadFrom 9 = .ok (.getfield 57, 3) := by decide +kernel
theorem dX10_spreadFrom_12 : decode cX10_spreadFrom 12 = .ok (.iload_n 2, 1) := by decide +kernel
theorem dX10_spreadFrom_13 : decode cX10_spreadFrom 13 = .ok (.iload_n 2, 1) := by decide +kernel
theorem dX10_spreadFrom_14 : decode cX10_spreadFrom 14 = .ok (.iload_n 1, 1) := by decide +kernel
theorem dX10_spreadFrom_15 : decode cX10_spreadFrom 15 = .ok (.if_icmp .eq 24, 3) := by decide +kernel
theorem dX10_spreadFrom_39 : decode cX10_spreadFrom 39 = .ok (.iconst 1, 1) := by decide +kernel
theorem dX10_spreadFrom_40 : decode cX10_spreadFrom 40 = .ok (.goto 4, 3) := by decide +kernel
theorem dX10_spreadFrom_44 : decode cX10_spreadFrom 44 = .ok (.bastore, 1) := by decide +kernel
theorem dX10_spreadFrom_45 : decode cX10_spreadFrom 45 = .ok (.iinc 2 1, 3) := by decide +kernel
theorem dX10_spreadFrom_48 : decode cX10_spreadFrom 48 = .ok (.goto (-46), 3) := by decide +kernel
theorem dX10_spreadFrom_18 : decode cX10_spreadFrom 18 = .ok (.iload_n 1, 1) := by decide +kernel
theorem dX10_spreadFrom_19 : decode cX10_spreadFrom 19 = .ok (.ifCond .ge 24, 3) := by decide +kernel
theorem dX10_spreadFrom_22 : decode cX10_spreadFrom 22 = .ok (.aload_n 0, 1) := by decide +kernel
theorem dX10_spreadFrom_23 : decode cX10_spreadFrom 23 = .ok (.iload_n 2, 1) := by decide +kernel
theorem dX10_spreadFrom_24 : decode cX10_spreadFrom 24 = .ok (.invokevirtual 286, 3) := by decide +kernel
theorem dX10_spreadFrom_27 : decode cX10_spreadFrom 27 = .ok (.ifCond .eq 16, 3) := by decide +kernel
theorem dX10_spreadFrom_43 : decode cX10_spreadFrom 43 = .ok (.iconst 0, 1) := by decide +kernel
theorem dX10_spreadFrom_0 : decode cX10_spreadFrom 0 = .ok (.iconst 0, 1) := by decide +kernel
theorem dX10_spreadFrom_1 : decode cX10_spreadFrom 1 = .ok (.istore_n 2, 1) := by decide +kernel
set_option maxRecDepth 20000 in
theorem ihX10_spreadFrom_10 : ∀ w ∈ u_ws RX10 TX10 30, w ∈ wsX10_spreadFrom := by decide +kernel
set_option maxHeartbeats 4000000 in
set_option maxRecDepth 100000 in
theorem hv_X10_spreadFrom (l : Launch) (D : va_G) (cy : Nat → ClassId) (a : Nat → Nat) (sz : Nat) (R : Nat → Nat → Int32)  : Met l yX10_spreadFrom wsX10_spreadFrom ({ frames := 2, cells := 0, slots := 0, locals := 43 }) (va_Pc [.ref (a 0), .int (-1)] (PW D cy sz (MW cy a (fun _ => 0) (fun _ => 0) R (fun _ _ => 0)))) (va_Qi (fun r (u : MS) => r = (-1) ∧ u.1 = (fun _ => 0) ∧ u.2.1 = (fun _ => 0) ∧ u.2.2.2 = (fun _ _ => 0)) (BW D (va_A (MW cy a (fun _ => 0) (fun _ => 0) R (fun _ _ => 0)) sz) (MWu cy a)) (va_A (MW cy a (fun _ => 0) (fun _ => 0) R (fun _ _ => 0)) sz)) 0 0 (va_A (MW cy a (fun _ => 0) (fun _ => 0) R (fun _ _ => 0)) sz) := by
  refine Met.ofW (cc := cX10_spreadFrom) (maxL := 6) (ret := (some .int)) (by decide) rfl ?_
  intro p e s m args below meth c s₁ B hml hv
  obtain ⟨rfl, rfl, hP, hK, hN, hD0⟩ := hv
  have hx := B.exec
  have hb := B.bytes
  have hr := B.returns
  have hts := atoms_spec (ws := wsX10_spreadFrom) B.pre
  have hown : s.vm.findClass RX10 = some m.cls := findClass_of_methodNamed B.named
  have hlocks := B.notSynchronized
  have hw0 := hts (.fieldLink RX10 57 "ParquetLayerModel" "seen" "[Z") (by decide +kernel)
  have hi10 := ihX10_spreadFrom_10
  have hD := hD0.self (sz := s.heap.size)
  generalize hAe : va_A (MW cy a (fun _ => 0) (fun _ => 0) R (fun _ _ => 0)) s.heap.size = A at hD ⊢
  have hA : ∀ q : Nat, s.heap.size ≤ q → A q := fun q h => by rw [← hAe]; exact Or.inr h
  have hS : va_S A s.heap s.heap [] := va_S.rf
  have hl := lv_entry ([.ref (a 0), .int (-1)]) (n := 6) (Nat.le_of_ble_eq_true rfl)
  rw [lg_entry_eq]
  generalize (lg_sl ([.ref (a 0), .int (-1)]) ++ List.replicate (6 - (lg_sl ([.ref (a 0), .int (-1)])).length) Slot.unset).toArray = ls at hl ⊢
  have hl : lv_has ls 6 [(0, .ref (a 0)), (1, .int (-1))] := hl
  have lp61 : ∀ (n61 : Nat), ∀ (i : Nat) (R1 : Nat → Nat → Int32), (i ≤ 64) → (64 - i) < n61 → ∀ (H : Heap) (locs : List Loc), va_P D vwCl (MW cy a (fun _ => 0) (fun _ => 0) R1 (fun _ _ => 0)) H → va_D A (MW cy a (fun _ => 0) (fun _ => 0) R1 (fun _ _ => 0)) → va_S A s.heap H locs → ∀ (ls : Array Slot), lv_has ls 6 [(0, .ref (a 0)), (1, .int (-1)), (2, .int 0), (3, .int (nI i))] → W p l e (headSpec wsX10_spreadFrom ({ frames := 2, cells := 0, slots := 0, locals := 43 })).room s m ([.ref (a 0), .int (-1)] : List Value).toArray below meth c H locs 0 0 (MQ below (va_Qi (fun r (u : MS) => r = (-1) ∧ u.1 = (fun _ => 0) ∧ u.2.1 = (fun _ => 0) ∧ u.2.2.2 = (fun _ _ => 0)) (BW D A (MWu cy a)) A) ([.ref (a 0), .int (-1)] : List Value).toArray s 0 0 A) (F0 m 61 ls []) := by
    intro n61
    induction n61 with
    | zero => intro i R1 hi hn; exact absurd hn (Nat.not_lt_zero _)
    | succ n61 ih61 =>
      intro i R1 hi hn61 H locs hP hD hS ls hl
      refine lv_iload_n hx hb dX10_spreadFrom_61 rfl (lv_at hl 3 rfl) ?_
      refine lv_bipush (v := 64) hx hb dX10_spreadFrom_62 (by decide) ?_
      refine lv_icmp_ge (tgt := 187) hx hb dX10_spreadFrom_64 (by decide) (fun c_1 => ?_) (fun c_1 => ?_)
      · have hie := ctr_ge (N := 64) (by decide) hi c_1
        subst hie
        refine lv_goto (tgt := 53) hx hb dX10_spreadFrom_187 (by decide) ?_
        refine lv_iload_n hx hb dX10_spreadFrom_53 rfl (lv_at hl 2 rfl) ?_
        refine lv_if_eq (tgt := 190) hx hb dX10_spreadFrom_54 (by decide) (fun c_2 => ?_) (fun c_2 => absurd (by decide) c_2)
        refine lv_iconst (v := (-1)) hx hb dX10_spreadFrom_190 (by decide) ?_
        exact wret_i hx hb hr hlocks ((fun _ => 0), (fun _ => 0), R1, (fun _ _ => 0)) ⟨rfl, rfl, rfl, rfl⟩ hP hD hS dX10_spreadFrom_191
      · have hlt := ctr_lt (N := 64) (by decide) hi c_1
        refine lv_iconst (v := 0) hx hb dX10_spreadFrom_67 (by decide) ?_
        refine lv_istore (lv' := [(4, .int 0), (0, .ref (a 0)), (1, .int (-1)), (2, .int 0), (3, .int (nI i))]) hx hb dX10_spreadFrom_68 hl (by decide) rfl (fun ls hl => ?_)
        refine lv_iload hx hb dX10_spreadFrom_70 (lv_at hl 0 rfl) ?_
        refine lv_iconst (v := 4) hx hb dX10_spreadFrom_72 (by decide) ?_
        refine lv_icmp_ge (tgt := 181) hx hb dX10_spreadFrom_73 (by decide) (fun c_3 => absurd c_3 (by decide)) (fun c_3 => ?_)
        refine lv_aload_n hx hb dX10_spreadFrom_76 rfl (lv_at hl 1 rfl) ?_
        refine va_get (D := D) (ci := 9) (v := .ref (a 16)) (C := RX10) (T := TX10) (N := 30) hx hb hts hi10 hown hK hP 0 rfl rfl 27 (by decide) hw0 (fun _ h9 => h9) rfl dX10_spreadFrom_77 ?_
        refine lv_iload_n hx hb dX10_spreadFrom_80 rfl (lv_at hl 4 rfl) ?_
        refine va_zald hx hb hK hP 16 2 rfl rfl (vp_in_nI (by omega) (by decide)) dX10_spreadFrom_81 ?_
        refine lv_if_eq (tgt := 181) hx hb dX10_spreadFrom_82 (by decide) (fun c_4 => ?_) (fun c_4 => ?_)
        · refine lv_iinc (v := nI (i + 1)) (lv' := [(3, .int (nI (i + 1))), (4, .int 0), (0, .ref (a 0)), (1, .int (-1)), (2, .int 0)]) hx hb dX10_spreadFrom_181 hl (k := 4) rfl (nI_1 _) (by decide) rfl (fun ls hl => ?_)
          refine lv_goto (tgt := 61) hx hb dX10_spreadFrom_184 (by decide) ?_
          exact ih61 (i + 1) R1 (by omega) (by omega) _ _ hP hD hS ls (lv_sub hl [2, 3, 4, 0] rfl)
        · refine lv_aload_n hx hb dX10_spreadFrom_85 rfl (lv_at hl 1 rfl) ?_
          refine lv_iload_n hx hb dX10_spreadFrom_86 rfl (lv_at hl 4 rfl) ?_
          refine kR_i (As := [.int (nI i)]) (rest := []) (q0 := 0) ⟨hx, hb, hml, hown, hts⟩ (c_X10_isDarkField l D cy a _ R1 (nI i) ) (cwV 1 hts gX10_spreadFrom_X10_isDarkField rfl rfl rfl (by decide +kernel) ⟨Nat.le_of_ble_eq_true rfl, Nat.le_of_ble_eq_true rfl⟩) hK hN hP hD rfl rfl rfl hl.1 rfl (Nat.le_of_ble_eq_true rfl) dX10_spreadFrom_87 ⟨Nat.le_of_ble_eq_true rfl, Nat.le_of_ble_eq_true rfl⟩ ?_
          refine lv_if_eq (tgt := 181) hx hb dX10_spreadFrom_90 (by decide) (fun c_5 => ?_) (fun c_5 => absurd (by decide) c_5)
          refine lv_iinc (v := nI (i + 1)) (lv' := [(3, .int (nI (i + 1))), (4, .int 0), (0, .ref (a 0)), (1, .int (-1)), (2, .int 0)]) hx hb dX10_spreadFrom_181 hl (k := 4) rfl (nI_1 _) (by decide) rfl (fun ls hl => ?_)
          refine lv_goto (tgt := 61) hx hb dX10_spreadFrom_184 (by decide) ?_
          exact ih61 (i + 1) R1 (by omega) (by omega) _ _ hP hD hS ls (lv_sub hl [2, 3, 4, 0] rfl)
  have lp2 : ∀ (n2 : Nat), ∀ (i : Nat) (R1 : Nat → Nat → Int32), (i ≤ 64) → (64 - i) < n2 → ∀ (H : Heap) (locs : List Loc), va_P D vwCl (MW cy a (fun _ => 0) (fun _ => 0) R1 (fun _ _ => 0)) H → va_D A (MW cy a (fun _ => 0) (fun _ => 0) R1 (fun _ _ => 0)) → va_S A s.heap H locs → ∀ (ls : Array Slot), lv_has ls 6 [(0, .ref (a 0)), (1, .int (-1)), (2, .int (nI i))] → W p l e (headSpec wsX10_spreadFrom ({ frames := 2, cells := 0, slots := 0, locals := 43 })).room s m ([.ref (a 0), .int (-1)] : List Value).toArray below meth c H locs 0 0 (MQ below (va_Qi (fun r (u : MS) => r = (-1) ∧ u.1 = (fun _ => 0) ∧ u.2.1 = (fun _ => 0) ∧ u.2.2.2 = (fun _ _ => 0)) (BW D A (MWu cy a)) A) ([.ref (a 0), .int (-1)] : List Value).toArray s 0 0 A) (F0 m 2 ls []) := by
    intro n2
    induction n2 with
    | zero => intro i R1 hi hn; exact absurd hn (Nat.not_lt_zero _)
    | succ n2 ih2 =>
      intro i R1 hi hn2 H locs hP hD hS ls hl
      refine lv_iload_n hx hb dX10_spreadFrom_2 rfl (lv_at hl 2 rfl) ?_
      refine lv_bipush (v := 64) hx hb dX10_spreadFrom_3 (by decide) ?_
      refine lv_icmp_ge (tgt := 51) hx hb dX10_spreadFrom_5 (by decide) (fun c_6 => ?_) (fun c_6 => ?_)
      · have hie := ctr_ge (N := 64) (by decide) hi c_6
        subst hie
        refine lv_iconst (v := 1) hx hb dX10_spreadFrom_51 (by decide) ?_
        refine lv_istore_n (lv' := [(2, .int 1), (0, .ref (a 0)), (1, .int (-1))]) hx hb dX10_spreadFrom_52 rfl hl (by decide) rfl (fun ls hl => ?_)
        refine lv_iload_n hx hb dX10_spreadFrom_53 rfl (lv_at hl 0 rfl) ?_
        refine lv_if_eq (tgt := 190) hx hb dX10_spreadFrom_54 (by decide) (fun c_7 => absurd c_7 (by decide)) (fun c_7 => ?_)
        refine lv_iconst (v := 0) hx hb dX10_spreadFrom_57 (by decide) ?_
        refine lv_istore_n (lv' := [(2, .int 0), (0, .ref (a 0)), (1, .int (-1))]) hx hb dX10_spreadFrom_58 rfl hl (by decide) rfl (fun ls hl => ?_)
        refine lv_iconst (v := 0) hx hb dX10_spreadFrom_59 (by decide) ?_
        refine lv_istore_n (lv' := [(3, .int 0), (2, .int 0), (0, .ref (a 0)), (1, .int (-1))]) hx hb dX10_spreadFrom_60 rfl hl (by decide) rfl (fun ls hl => ?_)
        exact lp61 _ 0 R1 (by omega) (Nat.lt_succ_self _) _ _ hP hD hS ls (lv_sub hl [2, 3, 1, 0] rfl)
      · have hlt := ctr_lt (N := 64) (by decide) hi c_6
        refine lv_aload_n hx hb dX10_spreadFrom_8 rfl (lv_at hl 0 rfl) ?_
        refine va_get (D := D) (ci := 9) (v := .ref (a 16)) (C := RX10) (T := TX10) (N := 30) hx hb hts hi10 hown hK hP 0 rfl rfl 27 (by decide) hw0 (fun _ h9 => h9) rfl dX10_spreadFrom_9 ?_
        refine lv_iload_n hx hb dX10_spreadFrom_12 rfl (lv_at hl 2 rfl) ?_
        refine lv_iload_n hx hb dX10_spreadFrom_13 rfl (lv_at hl 2 rfl) ?_
        refine lv_iload_n hx hb dX10_spreadFrom_14 rfl (lv_at hl 1 rfl) ?_
        refine lv_icmp_eq (tgt := 39) hx hb dX10_spreadFrom_15 (by decide) (fun c_8 => ?_) (fun c_8 => ?_)
        · refine lv_iconst (v := 1) hx hb dX10_spreadFrom_39 (by decide) ?_
          refine lv_goto (tgt := 44) hx hb dX10_spreadFrom_40 (by decide) ?_
          refine va_zast hx hb hK hP hD hS 16 2 rfl rfl (vp_in_nI (by omega) (by decide)) dX10_spreadFrom_44 (fun H locs hP hD hS => ?_)
          have hP : va_P D vwCl (MW cy a (fun _ => 0) (fun _ => 0) (va_up R1 16 (upd (R1 16) (nI i).toNatClampNeg (vp_nar .boolean 1))) (fun _ _ => 0)) H := hP
          have hD : va_D A (MW cy a (fun _ => 0) (fun _ => 0) (va_up R1 16 (upd (R1 16) (nI i).toNatClampNeg (vp_nar .boolean 1))) (fun _ _ => 0)) := hD
          refine lv_iinc (v := nI (i + 1)) (lv' := [(2, .int (nI (i + 1))), (0, .ref (a 0)), (1, .int (-1))]) hx hb dX10_spreadFrom_45 hl (k := 2) rfl (nI_1 _) (by decide) rfl (fun ls hl => ?_)
          refine lv_goto (tgt := 2) hx hb dX10_spreadFrom_48 (by decide) ?_
          exact ih2 (i + 1) (va_up R1 16 (upd (R1 16) (nI i).toNatClampNeg (vp_nar .boolean 1))) (by omega) (by omega) _ _ hP hD hS ls (lv_sub hl [1, 2, 0] rfl)
        · refine lv_iload_n hx hb dX10_spreadFrom_18 rfl (lv_at hl 1 rfl) ?_
          refine lv_if_ge (tgt := 43) hx hb dX10_spreadFrom_19 (by decide) (fun c_9 => absurd c_9 (by decide)) (fun c_9 => ?_)
          refine lv_aload_n hx hb dX10_spreadFrom_22 rfl (lv_at hl 0 rfl) ?_
          refine lv_iload_n hx hb dX10_spreadFrom_23 rfl (lv_at hl 2 rfl) ?_
          refine kR_i (As := [.int (nI i)]) (rest := [.int (nI i), .ref (a 16)]) (q0 := 0) ⟨hx, hb, hml, hown, hts⟩ (c_X10_isDarkField l D cy a _ R1 (nI i) ) (cwV 1 hts gX10_spreadFrom_X10_isDarkField rfl rfl rfl (by decide +kernel) ⟨Nat.le_of_ble_eq_true rfl, Nat.le_of_ble_eq_true rfl⟩) hK hN hP hD rfl rfl rfl hl.1 rfl (Nat.le_of_ble_eq_true rfl) dX10_spreadFrom_24 ⟨Nat.le_of_ble_eq_true rfl, Nat.le_of_ble_eq_true rfl⟩ ?_
          refine lv_if_eq (tgt := 43) hx hb dX10_spreadFrom_27 (by decide) (fun c_10 => ?_) (fun c_10 => absurd (by decide) c_10)
          refine lv_iconst (v := 0) hx hb dX10_spreadFrom_43 (by decide) ?_
          refine va_zast hx hb hK hP hD hS 16 2 rfl rfl (vp_in_nI (by omega) (by decide)) dX10_spreadFrom_44 (fun H locs hP hD hS => ?_)
          have hP : va_P D vwCl (MW cy a (fun _ => 0) (fun _ => 0) (va_up R1 16 (upd (R1 16) (nI i).toNatClampNeg (vp_nar .boolean 0))) (fun _ _ => 0)) H := hP
          have hD : va_D A (MW cy a (fun _ => 0) (fun _ => 0) (va_up R1 16 (upd (R1 16) (nI i).toNatClampNeg (vp_nar .boolean 0))) (fun _ _ => 0)) := hD
          refine lv_iinc (v := nI (i + 1)) (lv' := [(2, .int (nI (i + 1))), (0, .ref (a 0)), (1, .int (-1))]) hx hb dX10_spreadFrom_45 hl (k := 2) rfl (nI_1 _) (by decide) rfl (fun ls hl => ?_)
          refine lv_goto (tgt := 2) hx hb dX10_spreadFrom_48 (by decide) ?_
          exact ih2 (i + 1) (va_up R1 16 (upd (R1 16) (nI i).toNatClampNeg (vp_nar .boolean 0))) (by omega) (by omega) _ _ hP hD hS ls (lv_sub hl [1, 2, 0] rfl)
  refine lv_iconst (v := 0) hx hb dX10_spreadFrom_0 (by decide) ?_
  refine lv_istore_n (lv' := [(2, .int 0), (0, .ref (a 0)), (1, .int (-1))]) hx hb dX10_spreadFrom_1 rfl hl (by decide) rfl (fun ls hl => ?_)
  exact lp2 _ 0 R (by omega) (Nat.lt_succ_self _) _ _ hP hD hS ls (lv_sub hl [1, 2, 0] rfl)
theorem dX10_lack_0 : decode cX10_lack 0 = .ok (.aload_n 0, 1) := by decide +kernel
set_option maxRecDepth 20000 in
theorem ggX10_lack_X10_match : GoodIn wsX10_lack wsX10_match := goodIn_r _ [5, 6, 7, 8, 9, 10, 4, 11, 12, 13, 14, 15, 16, 17, 18, 19, 20, 21, 22, 23, 24, 25, 26, 27, 28, 29, 30, 31, 32, 33, 34, 35, 36, 37, 38, 39, 40, 41, 42, 43, 44, 45, 46, 47, 48, 49, 50, 51, 52, 53, 54, 55, 56, 57, 58, 59] (by decide +kernel) (by decide +kernel)
set_option maxRecDepth 20000 in
theorem gX10_lack_X10_match : GoodIn wsX10_lack (wsV RX10 295 RX10 yX10_match wsX10_match) := goodIn_app (goodIn_of _ (by decide +kernel)) ggX10_lack_X10_match
theorem dX10_lack_1 : decode cX10_lack 1 = .ok (.invokevirtual 295, 3) := by decide +kernel
theorem dX10_lack_4 : decode cX10_lack 4 = .ok (.ireturn, 1) := by decide +kernel
set_option maxHeartbeats 4000000 in
set_option maxRecDepth 100000 in
theorem mp_X10_lack (l : Launch) (D : va_G) (cy : Nat → ClassId) (a : Nat → Nat) (sz : Nat)  : Met l yX10_lack wsX10_lack ({ frames := 3, cells := 0, slots := 0, locals := 68 }) (va_Pc [.ref (a 0)] (PW D cy sz (MW cy a (fun _ => 0) (fun _ => 0) (fun _ _ => 0) (fun _ _ => 0)))) (va_Qi (fun r (_ : Unit) => r = 0) (fun _ _ => True) (va_A (MW cy a (fun _ => 0) (fun _ => 0) (fun _ _ => 0) (fun _ _ => 0)) sz)) 0 0 (va_A (MW cy a (fun _ => 0) (fun _ => 0) (fun _ _ => 0) (fun _ _ => 0)) sz) := by
  refine Met.ofW (cc := cX10_lack) (maxL := 1) (ret := (some .int)) (by decide) rfl ?_
  intro p e s m args below meth c s₁ B hml hv
  obtain ⟨rfl, rfl, hP, hK, hN, hD0⟩ := hv
  have hx := B.exec
  have hb := B.bytes
  have hr := B.returns
  have hts := atoms_spec (ws := wsX10_lack) B.pre
  have hown : s.vm.findClass RX10 = some m.cls := findClass_of_methodNamed B.named
  have hlocks := B.notSynchronized
  have hD := hD0.self (sz := s.heap.size)
  generalize hAe : va_A (MW cy a (fun _ => 0) (fun _ => 0) (fun _ _ => 0) (fun _ _ => 0)) s.heap.size = A at hD ⊢
  have hA : ∀ q : Nat, s.heap.size ≤ q → A q := fun q h => by rw [← hAe]; exact Or.inr h
  have hS : va_S A s.heap s.heap [] := va_S.rf
  have hl := lv_entry ([.ref (a 0)]) (n := 1) (Nat.le_of_ble_eq_true rfl)
  rw [lg_entry_eq]
  generalize (lg_sl ([.ref (a 0)]) ++ List.replicate (1 - (lg_sl ([.ref (a 0)])).length) Slot.unset).toArray = ls at hl ⊢
  have hl : lv_has ls 1 [(0, .ref (a 0))] := hl
  refine lv_aload_n hx hb dX10_lack_0 rfl (lv_at hl 0 rfl) ?_
  refine kM_i (As := []) (rest := []) (q0 := 0) ⟨hx, hb, hml, hown, hts⟩ (hv_X10_match l D cy a _   ) (cwV 0 hts gX10_lack_X10_match rfl rfl rfl (by decide +kernel) ⟨Nat.le_of_ble_eq_true rfl, Nat.le_of_ble_eq_true rfl⟩) hK hN hP hD hS hA rfl rfl rfl hl.1 rfl (Nat.le_of_ble_eq_true rfl) dX10_lack_1 ⟨Nat.le_of_ble_eq_true rfl, Nat.le_of_ble_eq_true rfl⟩ (fun r u H locs hw hP hD hS => ?_)
  obtain ⟨z_J, z_I, Rh_1, z_RJ⟩ := u
  try dsimp only at hw
  obtain ⟨rfl, rfl, rfl, rfl⟩ := hw
  have hP : va_P D vwCl (MW cy a (fun _ => 0) (fun _ => 0) Rh_1 (fun _ _ => 0)) H := hP
  have hD : va_D A (MW cy a (fun _ => 0) (fun _ => 0) Rh_1 (fun _ _ => 0)) := hD
  exact qret_i hx hb hr hlocks rfl hS dX10_lack_4
theorem dX10_lacking_0 : decode cX10_lacking 0 = .ok (.iload_n 1, 1) := by decide +kernel
set_option maxRecDepth 20000 in
theorem ggX10_lacking_X10_isField : GoodIn wsX10_lacking wsX10_isField := goodIn_r _ [6, 7, 8, 5, 9] (by decide +kernel) (by decide +kernel)
set_option maxRecDepth 20000 in
theorem gX10_lacking_X10_isField : GoodIn wsX10_lacking (va_wsS RX10 147 yX10_isField wsX10_isField) := goodIn_app (goodIn_of _ (by decide +kernel)) ggX10_lacking_X10_isField
theorem dX10_lacking_1 : decode cX10_lacking 1 = .ok (.invokestatic 147, 3) := by decide +kernel
theorem dX10_lacking_4 : decode cX10_lacking 4 = .ok (.ifCond .ne 10, 3) := by decide +kernel
theorem dX10_lacking_14 : decode cX10_lacking 14 = .ok (.aload_n 0, 1) := by decide +kernel
set_option maxRecDepth 20000 in
theorem ggX10_lacking_X10_match : GoodIn wsX10_lacking wsX10_match := goodIn_r _ [18, 19, 20, 21, 22, 23, 5, 24, 25, 26, 27, 28, 29, 30, 31, 32, 33, 34, 35, 2, 36, 37, 38, 7, 8, 9, 39, 40, 41, 42, 43, 44, 45, 46, 47, 48, 49, 50, 51, 52, 53, 54, 55, 56, 57, 58, 59, 60, 61, 62, 63, 64, 65, 66, 67, 68] (by decide +kernel) (by decide +kernel)
set_option maxRecDepth 20000 in
theorem gX10_lacking_X10_match : GoodIn wsX10_lacking (wsV RX10 295 RX10 yX10_match wsX10_match) := goodIn_app (goodIn_of _ (by decide +kernel)) ggX10_lacking_X10_match
theorem dX10_lacking_15 : decode cX10_lacking 15 = .ok (.invokevirtual 295, 3) := by decide +kernel
theorem dX10_lacking_18 : decode cX10_lacking 18 = .ok (.istore_n 2, 1) := by decide +kernel
theorem dX10_lacking_19 : decode cX10_lacking 19 = .ok (.aload_n 0, 1) := by decide +kernel
theorem dX10_lacking_20 : decode cX10_lacking 20 = .ok (.iconst (-1), 1) := by decide +kernel
set_option maxRecDepth 20000 in
theorem ggX10_lacking_X10_spreadFrom : GoodIn wsX10_lacking wsX10_spreadFrom := goodIn_r _ [35, 2, 19, 25, 20, 21, 22, 23, 5, 24, 26, 27, 28, 29, 30, 31, 36, 37, 38, 7, 8, 9, 39, 40, 41, 42, 43, 44, 45, 46, 47, 48, 49, 50, 51, 52, 53, 54, 55, 56, 57, 58, 59, 60, 61, 62, 63, 64, 65, 66, 67, 68] (by decide +kernel) (by decide +kernel)
set_option maxRecDepth 20000 in
theorem gX10_lacking_X10_spreadFrom : GoodIn wsX10_lacking (wsV RX10 292 RX10 yX10_spreadFrom wsX10_spreadFrom) := goodIn_app (goodIn_of _ (by decide +kernel)) ggX10_lacking_X10_spreadFrom
theorem dX10_lacking_21 : decode cX10_lacking 21 = .ok (.invokevirtual 292, 3) := by decide +kernel
theorem dX10_lacking_24 : decode cX10_lacking 24 = .ok (.istore_n 3, 1) := by decide +kernel
theorem dX10_lacking_25 : decode cX10_lacking 25 = .ok (.aload_n 0, 1) := by decide +kernel
theorem dX10_lacking_26 : decode cX10_lacking 26 = .ok (.iload_n 1, 1) := by decide +kernel
set_option maxRecDepth 20000 in
theorem ggX10_lacking_X10_isDarkField : GoodIn wsX10_lacking wsX10_isDarkField := goodIn_r _ [24, 25, 26, 27, 5, 28, 29, 30, 31, 39, 40, 41, 42, 43, 44, 45, 46, 47, 48, 49, 50, 51, 52, 53, 54, 55, 56, 57, 58, 59, 60, 61, 62, 63, 64, 65, 66, 67, 68] (by decide +kernel) (by decide +kernel)
set_option maxRecDepth 20000 in
theorem gX10_lacking_X10_isDarkField : GoodIn wsX10_lacking (wsV RX10 286 RX10 yX10_isDarkField wsX10_isDarkField) := goodIn_app (goodIn_of _ (by decide +kernel)) ggX10_lacking_X10_isDarkField
theorem dX10_lacking_27 : decode cX10_lacking 27 = .ok (.invokevirtual 286, 3) := by decide +kernel
theorem dX10_lacking_30 : decode cX10_lacking 30 = .ok (.ifCond .eq 16, 3) := by decide +kernel
theorem dX10_lacking_46 : decode cX10_lacking 46 = .ok (.iconst 0, 1) := by decide +kernel
theorem dX10_lacking_47 : decode cX10_lacking 47 = .ok (.ireturn, 1) := by decide +kernel
theorem dX10_lacking_7 : decode cX10_lacking 7 = .ok (.aload_n 0, 1) := by decide +kernel
theorem dX10_lacking_8 : decode cX10_lacking 8 = .ok (.ldc 141, 2) := by decide +kernel
set_option maxRecDepth 20000 in
theorem ggX10_lacking_X10_finding : GoodIn wsX10_lacking wsX10_finding := goodIn_r _ [13, 14, 39, 40, 41, 42, 43, 44, 45, 46, 47, 48, 49, 50, 51, 52, 53, 54, 55, 56, 57, 58, 59, 60, 61, 62, 63, 64, 65, 66, 67, 68] (by decide +kernel) (by decide +kernel)
set_option maxRecDepth 20000 in
theorem gX10_lacking_X10_finding : GoodIn wsX10_lacking (wsV RX10 99 RX10 yX10_finding wsX10_finding) := goodIn_app (goodIn_of _ (by decide +kernel)) ggX10_lacking_X10_finding
theorem dX10_lacking_10 : decode cX10_lacking 10 = .ok (.invokevirtual 99, 3) := by decide +kernel
theorem dX10_lacking_13 : decode cX10_lacking 13 = .ok (.ireturn, 1) := by decide +kernel
set_option maxHeartbeats 4000000 in
set_option maxRecDepth 100000 in
theorem mp_X10_lacking (l : Launch) (D : va_G) (cy : Nat → ClassId) (a : Nat → Nat) (sz : Nat) (x0 : Int32) : Met l yX10_lacking wsX10_lacking ({ frames := 3, cells := 0, slots := 0, locals := 68 }) (va_Pc [.ref (a 0), .int x0] (PW D cy sz (MW cy a (fun _ => 0) (fun _ => 0) (fun _ _ => 0) (fun _ _ => 0)))) (va_Qi (fun r (_ : Unit) => r = a_fld x0 0) (fun _ _ => True) (va_A (MW cy a (fun _ => 0) (fun _ => 0) (fun _ _ => 0) (fun _ _ => 0)) sz)) 0 0 (va_A (MW cy a (fun _ => 0) (fun _ => 0) (fun _ _ => 0) (fun _ _ => 0)) sz) := by
  refine Met.ofW (cc := cX10_lacking) (maxL := 4) (ret := (some .int)) (by decide) rfl ?_
  intro p e s m args below meth c s₁ B hml hv
  obtain ⟨rfl, rfl, hP, hK, hN, hD0⟩ := hv
  have hx := B.exec
  have hb := B.bytes
  have hr := B.returns
  have hts := atoms_spec (ws := wsX10_lacking) B.pre
  have hown : s.vm.findClass RX10 = some m.cls := findClass_of_methodNamed B.named
  have hlocks := B.notSynchronized
  have hw0 := hts (.constant RX10 141 (-100001)) (by decide +kernel)
  have hD := hD0.self (sz := s.heap.size)
  generalize hAe : va_A (MW cy a (fun _ => 0) (fun _ => 0) (fun _ _ => 0) (fun _ _ => 0)) s.heap.size = A at hD ⊢
  have hA : ∀ q : Nat, s.heap.size ≤ q → A q := fun q h => by rw [← hAe]; exact Or.inr h
  have hS : va_S A s.heap s.heap [] := va_S.rf
  have hl := lv_entry ([.ref (a 0), .int x0]) (n := 4) (Nat.le_of_ble_eq_true rfl)
  rw [lg_entry_eq]
  generalize (lg_sl ([.ref (a 0), .int x0]) ++ List.replicate (4 - (lg_sl ([.ref (a 0), .int x0])).length) Slot.unset).toArray = ls at hl ⊢
  have hl : lv_has ls 4 [(0, .ref (a 0)), (1, .int x0)] := hl
  refine lv_iload_n hx hb dX10_lacking_0 rfl (lv_at hl 1 rfl) ?_
  refine kS_i (As := [.int x0]) (rest := []) ⟨hx, hb, hml, hown, hts⟩ (c_X10_isField l x0) (va_cwS 1 hts gX10_lacking_X10_isField rfl rfl rfl (by decide +kernel) ⟨Nat.le_of_ble_eq_true rfl, Nat.le_of_ble_eq_true rfl⟩) rfl hl.1 rfl (Nat.le_of_ble_eq_true rfl) dX10_lacking_1 ⟨Nat.le_of_ble_eq_true rfl, Nat.le_of_ble_eq_true rfl⟩ ?_
  refine lv_if_ne (tgt := 14) hx hb dX10_lacking_4 (by decide) (fun c_1 => ?_) (fun c_1 => ?_)
  · replace c_1 := bI_t c_1
    refine lv_aload_n hx hb dX10_lacking_14 rfl (lv_at hl 0 rfl) ?_
    refine kM_i (As := []) (rest := []) (q0 := 0) ⟨hx, hb, hml, hown, hts⟩ (hv_X10_match l D cy a _   ) (cwV 0 hts gX10_lacking_X10_match rfl rfl rfl (by decide +kernel) ⟨Nat.le_of_ble_eq_true rfl, Nat.le_of_ble_eq_true rfl⟩) hK hN hP hD hS hA rfl rfl rfl hl.1 rfl (Nat.le_of_ble_eq_true rfl) dX10_lacking_15 ⟨Nat.le_of_ble_eq_true rfl, Nat.le_of_ble_eq_true rfl⟩ (fun r u H locs hw hP hD hS => ?_)
    obtain ⟨z_J, z_I, Rh_2, z_RJ⟩ := u
    try dsimp only at hw
    obtain ⟨rfl, rfl, rfl, rfl⟩ := hw
    have hP : va_P D vwCl (MW cy a (fun _ => 0) (fun _ => 0) Rh_2 (fun _ _ => 0)) H := hP
    have hD : va_D A (MW cy a (fun _ => 0) (fun _ => 0) Rh_2 (fun _ _ => 0)) := hD
    refine lv_istore_n (lv' := [(2, .int 0), (0, .ref (a 0)), (1, .int x0)]) hx hb dX10_lacking_18 rfl hl (by decide) rfl (fun ls hl => ?_)
    refine lv_aload_n hx hb dX10_lacking_19 rfl (lv_at hl 1 rfl) ?_
    refine lv_iconst (v := (-1)) hx hb dX10_lacking_20 (by decide) ?_
    refine kM_i (As := [.int (-1)]) (rest := []) (q0 := 0) ⟨hx, hb, hml, hown, hts⟩ (hv_X10_spreadFrom l D cy a _ Rh_2  ) (cwV 1 hts gX10_lacking_X10_spreadFrom rfl rfl rfl (by decide +kernel) ⟨Nat.le_of_ble_eq_true rfl, Nat.le_of_ble_eq_true rfl⟩) hK hN hP hD hS hA rfl rfl rfl hl.1 rfl (Nat.le_of_ble_eq_true rfl) dX10_lacking_21 ⟨Nat.le_of_ble_eq_true rfl, Nat.le_of_ble_eq_true rfl⟩ (fun r u H locs hw hP hD hS => ?_)
    obtain ⟨z_J, z_I, Rh_3, z_RJ⟩ := u
    try dsimp only at hw
    obtain ⟨rfl, rfl, rfl, rfl⟩ := hw
    have hP : va_P D vwCl (MW cy a (fun _ => 0) (fun _ => 0) Rh_3 (fun _ _ => 0)) H := hP
    have hD : va_D A (MW cy a (fun _ => 0) (fun _ => 0) Rh_3 (fun _ _ => 0)) := hD
    refine lv_istore_n (lv' := [(3, .int (-1)), (2, .int 0), (0, .ref (a 0)), (1, .int x0)]) hx hb dX10_lacking_24 rfl hl (by decide) rfl (fun ls hl => ?_)
    refine lv_aload_n hx hb dX10_lacking_25 rfl (lv_at hl 2 rfl) ?_
    refine lv_iload_n hx hb dX10_lacking_26 rfl (lv_at hl 3 rfl) ?_
    refine kR_i (As := [.int x0]) (rest := []) (q0 := 0) ⟨hx, hb, hml, hown, hts⟩ (c_X10_isDarkField l D cy a _ Rh_3 x0 ) (cwV 1 hts gX10_lacking_X10_isDarkField rfl rfl rfl (by decide +kernel) ⟨Nat.le_of_ble_eq_true rfl, Nat.le_of_ble_eq_true rfl⟩) hK hN hP hD rfl rfl rfl hl.1 rfl (Nat.le_of_ble_eq_true rfl) dX10_lacking_27 ⟨Nat.le_of_ble_eq_true rfl, Nat.le_of_ble_eq_true rfl⟩ ?_
    refine lv_if_eq (tgt := 46) hx hb dX10_lacking_30 (by decide) (fun c_4 => ?_) (fun c_4 => absurd (by decide) c_4)
    refine lv_iconst (v := 0) hx hb dX10_lacking_46 (by decide) ?_
    exact qret_i hx hb hr hlocks (by simp [a_fld, c_1]) hS dX10_lacking_47
  · replace c_1 := bI_f c_1
    refine lv_aload_n hx hb dX10_lacking_7 rfl (lv_at hl 0 rfl) ?_
    refine lv_ldc (v := (-100001)) hx hb hown hw0 dX10_lacking_8 ?_
    refine kM_i (As := [.int (-100001)]) (rest := []) (q0 := 0) ⟨hx, hb, hml, hown, hts⟩ (c_X10_finding l D cy a _ (fun _ => 0) (fun _ => 0) (fun _ _ => 0) (fun _ _ => 0) (-100001) ) (cwV 1 hts gX10_lacking_X10_finding rfl rfl rfl (by decide +kernel) ⟨Nat.le_of_ble_eq_true rfl, Nat.le_of_ble_eq_true rfl⟩) hK hN hP hD hS hA rfl rfl rfl hl.1 rfl (Nat.le_of_ble_eq_true rfl) dX10_lacking_10 ⟨Nat.le_of_ble_eq_true rfl, Nat.le_of_ble_eq_true rfl⟩ (fun r u H locs hw hP hD hS => ?_)
    obtain ⟨rfl, rfl⟩ := hw
    have hP : va_P D vwCl (MW cy a (fun _ => 0) (va_up (fun _ => 0) 13 (0 + 1)) (fun _ _ => 0) (fun _ _ => 0)) H := hP
    have hD : va_D A (MW cy a (fun _ => 0) (va_up (fun _ => 0) 13 (0 + 1)) (fun _ _ => 0) (fun _ _ => 0)) := hD
    exact qret_i hx hb hr hlocks (by simp [a_fld, c_1]) hS dX10_lacking_13
