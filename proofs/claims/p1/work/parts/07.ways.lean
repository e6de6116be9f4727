theorem dX10_mayLie_0 : decode cX10_mayLie 0 = .ok (.iload_n 1, 1) := by decide +kernel
theorem dX10_mayLie_1 : decode cX10_mayLie 1 = .ok (.iload_n 2, 1) := by decide +kernel
set_option maxRecDepth 20000 in
theorem ggX10_mayLie_X10_place : GoodIn wsX10_mayLie wsX10_place := goodIn_r _ [9, 10] (by decide +kernel) (by decide +kernel)
set_option maxRecDepth 20000 in
theorem gX10_mayLie_X10_place : GoodIn wsX10_mayLie (va_wsS RX10 122 yX10_place wsX10_place) := goodIn_app (goodIn_of _ (by decide +kernel)) ggX10_mayLie_X10_place
theorem dX10_mayLie_2 : decode cX10_mayLie 2 = .ok (.invokestatic 122, 3) := by decide +kernel
theorem dX10_mayLie_5 : decode cX10_mayLie 5 = .ok (.lstore_n 3, 1) := by decide +kernel
theorem dX10_mayLie_6 : decode cX10_mayLie 6 = .ok (.lload_n 3, 1) := by decide +kernel
theorem dX10_mayLie_7 : decode cX10_mayLie 7 = .ok (.lconst 0, 1) := by decide +kernel
theorem dX10_mayLie_8 : decode cX10_mayLie 8 = .ok (.lcmp, 1) := by decide +kernel
theorem dX10_mayLie_9 : decode cX10_mayLie 9 = .ok (.ifCond .eq 18, 3) := by decide +kernel
theorem dX10_mayLie_27 : decode cX10_mayLie 27 = .ok (.iconst 0, 1) := by decide +kernel
theorem dX10_mayLie_28 : decode cX10_mayLie 28 = .ok (.ireturn, 1) := by decide +kernel
theorem dX10_mayLie_12 : decode cX10_mayLie 12 = .ok (.lload_n 3, 1) := by decide +kernel
theorem dX10_mayLie_13 : decode cX10_mayLie 13 = .ok (.aload_n 0, 1) := by decide +kernel
theorem dX10_mayLie_14 : decode cX10_mayLie 14 = .ok (.getfield 81, 3) := by decide +kernel
theorem dX10_mayLie_17 : decode cX10_mayLie 17 = .ok (.ldc2_w 126, 3) := by decide +kernel
theorem dX10_mayLie_20 : decode cX10_mayLie 20 = .ok (.lxor, 1) := by decide +kernel
theorem dX10_mayLie_21 : decode cX10_mayLie 21 = .ok (.land, 1) := by decide +kernel
theorem dX10_mayLie_22 : decode cX10_mayLie 22 = .ok (.lconst 0, 1) := by decide +kernel
theorem dX10_mayLie_23 : decode cX10_mayLie 23 = .ok (.lcmp, 1) := by decide +kernel
theorem dX10_mayLie_24 : decode cX10_mayLie 24 = .ok (.ifCond .eq 5, 3) := by decide +kernel
set_option maxRecDepth 20000 in
theorem ihX10_mayLie_10 : ∀ w ∈ u_ws RX10 TX10 30, w ∈ wsX10_mayLie := by decide +kernel
set_option maxHeartbeats 4000000 in
set_option maxRecDepth 100000 in
theorem c_X10_mayLie (l : Launch) (D : va_G) (cy : Nat → ClassId) (a : Nat → Nat) (sz : Nat) (R : Nat → Nat → Int32) (x0 : Int32) (x1 : Bool) : Met l yX10_mayLie wsX10_mayLie ({ frames := 1, cells := 0, slots := 0, locals := 21 }) (va_Pc [.ref (a 0), .int x0, .int (bI x1)] (PW D cy sz (MW cy a (fun _ => 0) (fun _ => 0) R (fun _ _ => 0)))) (vp_Si (fun r => r = bI (false))) 0 0 (fun _ => False) := by
  refine Met.ofW (cc := cX10_mayLie) (maxL := 5) (ret := (some .boolean)) (by decide) rfl ?_
  intro p e s m args below meth c s₁ B hml hv
  obtain ⟨rfl, rfl, hP, hK, hN, hD0⟩ := hv
  have hx := B.exec
  have hb := B.bytes
  have hr := B.returns
  have hts := atoms_spec (ws := wsX10_mayLie) B.pre
  have hown : s.vm.findClass RX10 = some m.cls := findClass_of_methodNamed B.named
  have hlocks := B.notSynchronized
  have hw0 := hts (.fieldLink RX10 81 "ParquetLayerModel" "floor" "J") (by decide +kernel)
  have hw1 := hts (.constantLong RX10 126 (-1)) (by decide +kernel)
  have hi10 := ihX10_mayLie_10
  have hD := hD0
  have hl := lv_entry ([.ref (a 0), .int x0, .int (bI x1)]) (n := 5) (Nat.le_of_ble_eq_true rfl)
  rw [lg_entry_eq]
  generalize (lg_sl ([.ref (a 0), .int x0, .int (bI x1)]) ++ List.replicate (5 - (lg_sl ([.ref (a 0), .int x0, .int (bI x1)])).length) Slot.unset).toArray = ls at hl ⊢
  have hl : lv_has ls 5 [(0, .ref (a 0)), (1, .int x0), (2, .int (bI x1))] := hl
  refine lv_iload_n hx hb dX10_mayLie_0 rfl (lv_at hl 1 rfl) ?_
  refine lv_iload_n hx hb dX10_mayLie_1 rfl (lv_at hl 2 rfl) ?_
  refine kS_l (As := [.int x0, .int (bI x1)]) (rest := []) ⟨hx, hb, hml, hown, hts⟩ (c_X10_place l x0 x1) (va_cwS 2 hts gX10_mayLie_X10_place rfl rfl rfl (by decide +kernel) ⟨Nat.le_of_ble_eq_true rfl, Nat.le_of_ble_eq_true rfl⟩) rfl hl.1 rfl (Nat.le_of_ble_eq_true rfl) dX10_mayLie_2 ⟨Nat.le_of_ble_eq_true rfl, Nat.le_of_ble_eq_true rfl⟩ ?_
  refine lv_lstore_n (lv' := [(3, .long (m_place x0 x1)), (0, .ref (a 0)), (1, .int x0), (2, .int (bI x1))]) hx hb dX10_mayLie_5 rfl hl (by decide) rfl (fun ls hl => ?_)
  refine lv_lload_n hx hb dX10_mayLie_6 rfl (lv_at hl 0 rfl) ?_
  refine lv_lconst (v := 0) hx hb dX10_mayLie_7 (by decide) ?_
  refine W.lcmp hx hb dX10_mayLie_8 ?_
  refine lv_if_eq (tgt := 27) hx hb dX10_mayLie_9 (by decide) (fun c_1 => ?_) (fun c_1 => ?_)
  · replace c_1 := (lg_cmp_eq _ _).mp c_1
    refine lv_iconst (v := 0) hx hb dX10_mayLie_27 (by decide) ?_
    exact pret_z hx hb hr hlocks rfl dX10_mayLie_28
  · replace c_1 := fun z => c_1 ((lg_cmp_eq _ _).mpr z)
    refine lv_lload_n hx hb dX10_mayLie_12 rfl (lv_at hl 0 rfl) ?_
    refine lv_aload_n hx hb dX10_mayLie_13 rfl (lv_at hl 1 rfl) ?_
    refine va_get (D := D) (ci := 9) (v := .long 0) (C := RX10) (T := TX10) (N := 30) hx hb hts hi10 hown hK hP 0 rfl rfl 0 (by decide) hw0 (fun _ h9 => h9) rfl dX10_mayLie_14 ?_
    refine lv_ldc2 (v := (-1)) hx hb hown hw1 dX10_mayLie_17 ?_
    refine lv_lxor hx hb dX10_mayLie_20 ?_
    refine wtop_l (y := (-1)) (by decide) ?_
    refine lv_land hx hb dX10_mayLie_21 ?_
    refine lv_lconst (v := 0) hx hb dX10_mayLie_22 (by decide) ?_
    refine W.lcmp hx hb dX10_mayLie_23 ?_
    refine lv_if_eq (tgt := 29) hx hb dX10_mayLie_24 (by decide) (fun c_2 => absurd c_2 (fun z => c_1 (by have h9 := (lg_cmp_eq _ _).mp z; rw [l_and1] at h9; exact h9))) (fun c_2 => ?_)
    refine lv_iconst (v := 0) hx hb dX10_mayLie_27 (by decide) ?_
    exact pret_z hx hb hr hlocks rfl dX10_mayLie_28
theorem dX10_waysAt_0 : decode cX10_waysAt 0 = .ok (.aload_n 0, 1) := by decide +kernel
theorem dX10_waysAt_1 : decode cX10_waysAt 1 = .ok (.getfield 45, 3) := by decide +kernel
theorem dX10_waysAt_4 : decode cX10_waysAt 4 = .ok (.sipush 256, 3) := by decide +kernel
theorem dX10_waysAt_7 : decode cX10_waysAt 7 = .ok (.iload_n 1, 1) := by decide +kernel
theorem dX10_waysAt_8 : decode cX10_waysAt 8 = .ok (.imul, 1) := by decide +kernel
theorem dX10_waysAt_9 : decode cX10_waysAt 9 = .ok (.iload_n 2, 1) := by decide +kernel
theorem dX10_waysAt_10 : decode cX10_waysAt 10 = .ok (.iadd, 1) := by decide +kernel
theorem dX10_waysAt_11 : decode cX10_waysAt 11 = .ok (.iaload, 1) := by decide +kernel
theorem dX10_waysAt_12 : decode cX10_waysAt 12 = .ok (.ireturn, 1) := by decide +kernel
set_option maxRecDepth 20000 in
theorem ihX10_waysAt_10 : ∀ w ∈ u_ws RX10 TX10 30, w ∈ wsX10_waysAt := by decide +kernel
set_option maxHeartbeats 4000000 in
set_option maxRecDepth 100000 in
theorem c_X10_waysAt (l : Launch) (D : va_G) (cy : Nat → ClassId) (a : Nat → Nat) (sz : Nat) (J : Nat → Int64) (I : Nat → Int32) (R : Nat → Nat → Int32) (RJ : Nat → Nat → Int64) (x0 : Int32) (x1 : Int32) (hx0 : vp_in ((256 : Int32) * x0 + x1) 16640) : Met l yX10_waysAt wsX10_waysAt ({ frames := 0, cells := 0, slots := 0, locals := 0 }) (va_Pc [.ref (a 0), .int x0, .int x1] (PW D cy sz (MW cy a J I R RJ))) (vp_Si (fun r => r = (R 12) ((256 : Int32) * x0 + x1).toNatClampNeg)) 0 0 (fun _ => False) := by
  refine Met.ofW (cc := cX10_waysAt) (maxL := 3) (ret := (some .int)) (by decide) rfl ?_
  intro p e s m args below meth c s₁ B hml hv
  obtain ⟨rfl, rfl, hP, hK, hN, hD0⟩ := hv
  have hx := B.exec
  have hb := B.bytes
  have hr := B.returns
  have hts := atoms_spec (ws := wsX10_waysAt) B.pre
  have hown : s.vm.findClass RX10 = some m.cls := findClass_of_methodNamed B.named
  have hlocks := B.notSynchronized
  have hw0 := hts (.fieldLink RX10 45 "ParquetLayerModel" "ways" "[I") (by decide +kernel)
  have hi10 := ihX10_waysAt_10
  have hD := hD0
  have hl := lv_entry ([.ref (a 0), .int x0, .int x1]) (n := 3) (Nat.le_of_ble_eq_true rfl)
  rw [lg_entry_eq]
  generalize (lg_sl ([.ref (a 0), .int x0, .int x1]) ++ List.replicate (3 - (lg_sl ([.ref (a 0), .int x0, .int x1])).length) Slot.unset).toArray = ls at hl ⊢
  have hl : lv_has ls 3 [(0, .ref (a 0)), (1, .int x0), (2, .int x1)] := hl
  refine lv_aload_n hx hb dX10_waysAt_0 rfl (lv_at hl 0 rfl) ?_
  refine va_get (D := D) (ci := 9) (v := .ref (a 12)) (C := RX10) (T := TX10) (N := 30) hx hb hts hi10 hown hK hP 0 rfl rfl 18 (by decide) hw0 (fun _ h9 => h9) rfl dX10_waysAt_1 ?_
  refine lv_sipush (v := 256) hx hb dX10_waysAt_4 (by decide) ?_
  refine lv_iload_n hx hb dX10_waysAt_7 rfl (lv_at hl 1 rfl) ?_
  refine lv_imul hx hb dX10_waysAt_8 ?_
  refine lv_iload_n hx hb dX10_waysAt_9 rfl (lv_at hl 2 rfl) ?_
  refine lv_iadd hx hb dX10_waysAt_10 ?_
  refine va_iald hx hb hK hP 12 0 rfl rfl hx0 dX10_waysAt_11 ?_
  exact pret_i hx hb hr hlocks rfl dX10_waysAt_12
theorem dX10_findGlued_0 : decode cX10_findGlued 0 = .ok (.aload_n 0, 1) := by decide +kernel
theorem dX10_findGlued_1 : decode cX10_findGlued 1 = .ok (.lconst 0, 1) := by decide +kernel
theorem dX10_findGlued_2 : decode cX10_findGlued 2 = .ok (.putfield 184, 3) := by decide +kernel
theorem dX10_findGlued_5 : decode cX10_findGlued 5 = .ok (.aload_n 0, 1) := by decide +kernel
theorem dX10_findGlued_6 : decode cX10_findGlued 6 = .ok (.lconst 0, 1) := by decide +kernel
theorem dX10_findGlued_7 : decode cX10_findGlued 7 = .ok (.putfield 187, 3) := by decide +kernel
theorem dX10_findGlued_10 : decode cX10_findGlued 10 = .ok (.aload_n 0, 1) := by decide +kernel
theorem dX10_findGlued_11 : decode cX10_findGlued 11 = .ok (.lconst 0, 1) := by decide +kernel
theorem dX10_findGlued_12 : decode cX10_findGlued 12 = .ok (.putfield 181, 3) := by decide +kernel
theorem dX10_findGlued_15 : decode cX10_findGlued 15 = .ok (.iconst 0, 1) := by decide +kernel
theorem dX10_findGlued_16 : decode cX10_findGlued 16 = .ok (.istore_n 1, 1) := by decide +kernel
theorem dX10_findGlued_17 : decode cX10_findGlued 17 = .ok (.iload_n 1, 1) := by decide +kernel
theorem dX10_findGlued_18 : decode cX10_findGlued 18 = .ok (.aload_n 0, 1) := by decide +kernel
theorem dX10_findGlued_19 : decode cX10_findGlued 19 = .ok (.getfield 85, 3) := by decide +kernel
theorem dX10_findGlued_22 : decode cX10_findGlued 22 = .ok (.if_icmp .ge 31, 3) := by decide +kernel
theorem dX10_findGlued_53 : decode cX10_findGlued 53 = .ok (.return_, 1) := by decide +kernel
set_option maxRecDepth 20000 in
theorem ihX10_findGlued_10 : ∀ w ∈ u_ws RX10 TX10 30, w ∈ wsX10_findGlued := by decide +kernel
set_option maxHeartbeats 4000000 in
set_option maxRecDepth 100000 in
theorem c_X10_findGlued (l : Launch) (D : va_G) (cy : Nat → ClassId) (a : Nat → Nat) (sz : Nat)   : Met l yX10_findGlued wsX10_findGlued ({ frames := 0, cells := 0, slots := 0, locals := 0 }) (va_Pc [.ref (a 0)] (PW D cy sz (MW cy a (fun _ => 0) (fun _ => 0) (fun _ _ => 0) (fun _ _ => 0)))) (va_Qv (fun (u : MS) => u = ((fun _ => 0), (fun _ => 0), (fun _ _ => 0), (fun _ _ => 0))) (BW D (va_A (MW cy a (fun _ => 0) (fun _ => 0) (fun _ _ => 0) (fun _ _ => 0)) sz) (MWu cy a)) (va_A (MW cy a (fun _ => 0) (fun _ => 0) (fun _ _ => 0) (fun _ _ => 0)) sz)) 0 0 (va_A (MW cy a (fun _ => 0) (fun _ => 0) (fun _ _ => 0) (fun _ _ => 0)) sz) := by
  refine Met.ofW (cc := cX10_findGlued) (maxL := 2) (ret := none) (by decide) rfl ?_
  intro p e s m args below meth c s₁ B hml hv
  obtain ⟨rfl, rfl, hP, hK, hN, hD0⟩ := hv
  have hx := B.exec
  have hb := B.bytes
  have hr := B.returns
  have hts := atoms_spec (ws := wsX10_findGlued) B.pre
  have hown : s.vm.findClass RX10 = some m.cls := findClass_of_methodNamed B.named
  have hlocks := B.notSynchronized
  have hw0 := hts (.fieldLink RX10 184 "ParquetLayerModel" "mustAlong" "J") (by decide +kernel)
  have hw1 := hts (.fieldLink RX10 187 "ParquetLayerModel" "mustAcross" "J") (by decide +kernel)
  have hw2 := hts (.fieldLink RX10 181 "ParquetLayerModel" "taken" "J") (by decide +kernel)
  have hw3 := hts (.fieldLink RX10 85 "ParquetLayerModel" "stones" "I") (by decide +kernel)
  have hi10 := ihX10_findGlued_10
  have hD := hD0.self (sz := s.heap.size)
  generalize hAe : va_A (MW cy a (fun _ => 0) (fun _ => 0) (fun _ _ => 0) (fun _ _ => 0)) s.heap.size = A at hD ⊢
  have hA : ∀ q : Nat, s.heap.size ≤ q → A q := fun q h => by rw [← hAe]; exact Or.inr h
  have hS : va_S A s.heap s.heap [] := va_S.rf
  have hl := lv_entry ([.ref (a 0)]) (n := 2) (Nat.le_of_ble_eq_true rfl)
  rw [lg_entry_eq]
  generalize (lg_sl ([.ref (a 0)]) ++ List.replicate (2 - (lg_sl ([.ref (a 0)])).length) Slot.unset).toArray = ls at hl ⊢
  have hl : lv_has ls 2 [(0, .ref (a 0))] := hl
  refine lv_aload_n hx hb dX10_findGlued_0 rfl (lv_at hl 0 rfl) ?_
  refine lv_lconst (v := 0) hx hb dX10_findGlued_1 (by decide) ?_
  refine va_put (D := D) (ci := 9) (v := .long 0) (ty := .long) (C := RX10) (T := TX10) (N := 30) hx hb hts hi10 tyX10 tyX10_ok nmX10 hown hK hP hD hS 0 rfl rfl 19 (by decide) hw0 (fun _ h9 => h9) rfl (by decide +kernel) rfl rfl (Nat.le_of_ble_eq_true rfl) dX10_findGlued_2 (fun H locs hP hD hS => ?_)
  have hP : va_P D vwCl (MW cy a (fun _ => 0) (fun _ => 0) (fun _ _ => 0) (fun _ _ => 0)) H := hP
  have hD : va_D A (MW cy a (fun _ => 0) (fun _ => 0) (fun _ _ => 0) (fun _ _ => 0)) := hD
  refine lv_aload_n hx hb dX10_findGlued_5 rfl (lv_at hl 0 rfl) ?_
  refine lv_lconst (v := 0) hx hb dX10_findGlued_6 (by decide) ?_
  refine va_put (D := D) (ci := 9) (v := .long 0) (ty := .long) (C := RX10) (T := TX10) (N := 30) hx hb hts hi10 tyX10 tyX10_ok nmX10 hown hK hP hD hS 0 rfl rfl 20 (by decide) hw1 (fun _ h9 => h9) rfl (by decide +kernel) rfl rfl (Nat.le_of_ble_eq_true rfl) dX10_findGlued_7 (fun H locs hP hD hS => ?_)
  have hP : va_P D vwCl (MW cy a (fun _ => 0) (fun _ => 0) (fun _ _ => 0) (fun _ _ => 0)) H := hP
  have hD : va_D A (MW cy a (fun _ => 0) (fun _ => 0) (fun _ _ => 0) (fun _ _ => 0)) := hD
  refine lv_aload_n hx hb dX10_findGlued_10 rfl (lv_at hl 0 rfl) ?_
  refine lv_lconst (v := 0) hx hb dX10_findGlued_11 (by decide) ?_
  refine va_put (D := D) (ci := 9) (v := .long 0) (ty := .long) (C := RX10) (T := TX10) (N := 30) hx hb hts hi10 tyX10 tyX10_ok nmX10 hown hK hP hD hS 0 rfl rfl 21 (by decide) hw2 (fun _ h9 => h9) rfl (by decide +kernel) rfl rfl (Nat.le_of_ble_eq_true rfl) dX10_findGlued_12 (fun H locs hP hD hS => ?_)
  have hP : va_P D vwCl (MW cy a (fun _ => 0) (fun _ => 0) (fun _ _ => 0) (fun _ _ => 0)) H := hP
  have hD : va_D A (MW cy a (fun _ => 0) (fun _ => 0) (fun _ _ => 0) (fun _ _ => 0)) := hD
  refine lv_iconst (v := 0) hx hb dX10_findGlued_15 (by decide) ?_
  refine lv_istore_n (lv' := [(1, .int 0), (0, .ref (a 0))]) hx hb dX10_findGlued_16 rfl hl (by decide) rfl (fun ls hl => ?_)
  refine lv_iload_n hx hb dX10_findGlued_17 rfl (lv_at hl 0 rfl) ?_
  refine lv_aload_n hx hb dX10_findGlued_18 rfl (lv_at hl 1 rfl) ?_
  refine va_get (D := D) (ci := 9) (v := .int 0) (C := RX10) (T := TX10) (N := 30) hx hb hts hi10 hown hK hP 0 rfl rfl 1 (by decide) hw3 (fun _ h9 => h9) rfl dX10_findGlued_19 ?_
  refine lv_icmp_ge (tgt := 53) hx hb dX10_findGlued_22 (by decide) (fun c_1 => ?_) (fun c_1 => absurd (by decide) c_1)
  exact wret_v hx hb hr hlocks ((fun _ => 0), (fun _ => 0), (fun _ _ => 0), (fun _ _ => 0)) rfl hP hD hS dX10_findGlued_53
def isWays (W0 : Nat → Int32) : Prop := ∀ f, f ≤ 64 → ∀ q, q < 256 → W0 (256 * f + q) = if q = 0 then 1 else 0
theorem row_upd {W0 : Nat → Int32} {n k : Nat} {v : Int32} (h : ∀ f, k ≤ f → f ≤ 64 → ∀ q, q < 256 → W0 (256 * f + q) = if q = 0 then 1 else 0) (hn : n < 256 * k) : ∀ f, k ≤ f → f ≤ 64 → ∀ q, q < 256 → upd W0 n v (256 * f + q) = if q = 0 then 1 else 0 := by
  intro f h1 h2 q hq
  rw [pk_un (by omega)]
  exact h f h1 h2 q hq
theorem row_in {W0 : Nat → Int32} {j n : Nat} {v : Int32} (h : ∀ q, q < n → W0 (256 * j + q) = if q = 0 then 1 else 0) (hv : v = if n = 0 then 1 else 0) : ∀ q, q < n + 1 → upd W0 (256 * j + n) v (256 * j + q) = if q = 0 then 1 else 0 := by
  intro q hq
  by_cases e : q = n
  · subst e; rw [pk_us]; exact hv
  · rw [pk_un (by omega)]; exact h q (by omega)
theorem row_out {W0 : Nat → Int32} {j : Nat} (h : ∀ f, j + 1 ≤ f → f ≤ 64 → ∀ q, q < 256 → W0 (256 * f + q) = if q = 0 then 1 else 0) (h2 : ∀ q, q < 256 → W0 (256 * j + q) = if q = 0 then 1 else 0) : ∀ f, j ≤ f → f ≤ 64 → ∀ q, q < 256 → W0 (256 * f + q) = if q = 0 then 1 else 0 := by
  intro f h3 h4 q hq
  by_cases e : f = j
  · subst e; exact h2 q hq
  · exact h f (by omega) h4 q hq
theorem dn_pos {k : Nat} (h : ¬ dn k < 0) : ∃ j, k = j + 1 := by
  cases k with
  | zero => exact absurd dn_0 h
  | succ k => exact ⟨k, rfl⟩
theorem dn_zero {k : Nat} (hk : k ≤ 64) (h : dn k < 0) : k = 0 := by
  cases k with
  | zero => rfl
  | succ k => exact absurd h (dn_lt (by omega))
theorem ix_w {j q : Nat} (hj : j < 65) (hq : q < 256) : vp_in ((256 : Int32) * nI j + nI q) 16640 := by
  rw [wix]; exact vp_in_nI (by omega) (by decide)
theorem ix_0 {q : Nat} (hq : q < 256) : vp_in ((16384 : Int32) + nI q) 16640 := by
  have e : (16384 : Int32) + nI q = nI (16384 + q) := by rw [← nI_add]; rfl
  rw [e]; exact vp_in_nI (by omega) (by decide)
theorem ix_0c {q : Nat} (hq : q < 256) : ((16384 : Int32) + nI q).toNatClampNeg = 256 * 64 + q := by
  have e : (16384 : Int32) + nI q = nI (16384 + q) := by rw [← nI_add]; rfl
  rw [e, nI_clamp (by omega)]
theorem par1 {n : Nat} (hn : n < 256) (h : nI (n % 2) = 1) : n ≠ 0 := by
  rintro rfl
  exact absurd h (by decide)
theorem par0 {n : Nat} (hn : n < 256) (h : ¬ nI (n % 2) = 1) : n % 2 = 0 := by
  rcases Nat.mod_two_eq_zero_or_one n with e | e
  · exact e
  · exact absurd (by rw [e]; rfl) h
theorem dX10_findWays_68 : decode cX10_findWays 68 = .ok (.iload 5, 2) := by decide +kernel
theorem dX10_findWays_70 : decode cX10_findWays 70 = .ok (.sipush 256, 3) := by decide +kernel
theorem dX10_findWays_73 : decode cX10_findWays 73 = .ok (.if_icmp .ge 139, 3) := by decide +kernel
theorem dX10_findWays_212 : decode cX10_findWays 212 = .ok (.iinc 1 (-1), 3) := by decide +kernel
theorem dX10_findWays_215 : decode cX10_findWays 215 = .ok (.goto (-178), 3) := by decide +kernel
theorem dX10_findWays_76 : decode cX10_findWays 76 = .ok (.iload 5, 2) := by decide +kernel
theorem dX10_findWays_78 : decode cX10_findWays 78 = .ok (.iconst 1, 1) := by decide +kernel
theorem dX10_findWays_79 : decode cX10_findWays 79 = .ok (.ishr, 1) := by decide +kernel
theorem dX10_findWays_80 : decode cX10_findWays 80 = .ok (.istore 6, 2) := by decide +kernel
theorem dX10_findWays_82 : decode cX10_findWays 82 = .ok (.iconst 0, 1) := by decide +kernel
theorem dX10_findWays_83 : decode cX10_findWays 83 = .ok (.istore 7, 2) := by decide +kernel
theorem dX10_findWays_85 : decode cX10_findWays 85 = .ok (.iload 5, 2) := by decide +kernel
theorem dX10_findWays_87 : decode cX10_findWays 87 = .ok (.iconst 1, 1) := by decide +kernel
theorem dX10_findWays_88 : decode cX10_findWays 88 = .ok (.iand, 1) := by decide +kernel
theorem dX10_findWays_89 : decode cX10_findWays 89 = .ok (.iconst 1, 1) := by decide +kernel
theorem dX10_findWays_90 : decode cX10_findWays 90 = .ok (.if_icmp .ne 25, 3) := by decide +kernel
theorem dX10_findWays_115 : decode cX10_findWays 115 = .ok (.iload_n 2, 1) := by decide +kernel
theorem dX10_findWays_116 : decode cX10_findWays 116 = .ok (.ifCond .ne 17, 3) := by decide +kernel
theorem dX10_findWays_119 : decode cX10_findWays 119 = .ok (.aload_n 0, 1) := by decide +kernel
theorem dX10_findWays_120 : decode cX10_findWays 120 = .ok (.iload_n 1, 1) := by decide +kernel
theorem dX10_findWays_121 : decode cX10_findWays 121 = .ok (.iconst 1, 1) := by decide +kernel
theorem dX10_findWays_122 : decode cX10_findWays 122 = .ok (.iadd, 1) := by decide +kernel
theorem dX10_findWays_123 : decode cX10_findWays 123 = .ok (.iload 6, 2) := by decide +kernel
set_option maxRecDepth 20000 in
theorem ggX10_findWays_X10_waysAt : GoodIn wsX10_findWays wsX10_waysAt := goodIn_r _ [22, 1, 23, 24, 25, 26, 27, 28, 29, 30, 31, 32, 33, 34, 35, 36, 37, 38, 39, 40, 41, 42, 43, 44, 45, 46, 47, 48, 49, 50, 51, 52] (by decide +kernel) (by decide +kernel)
set_option maxRecDepth 20000 in
theorem gX10_findWays_X10_waysAt : GoodIn wsX10_findWays (wsV RX10 197 RX10 yX10_waysAt wsX10_waysAt) := goodIn_app (goodIn_of _ (by decide +kernel)) ggX10_findWays_X10_waysAt
theorem dX10_findWays_125 : decode cX10_findWays 125 = .ok (.invokevirtual 197, 3) := by decide +kernel
theorem dX10_findWays_128 : decode cX10_findWays 128 = .ok (.istore 7, 2) := by decide +kernel
theorem dX10_findWays_130 : decode cX10_findWays 130 = .ok (.goto 61, 3) := by decide +kernel
theorem dX10_findWays_191 : decode cX10_findWays 191 = .ok (.aload_n 0, 1) := by decide +kernel
theorem dX10_findWays_192 : decode cX10_findWays 192 = .ok (.getfield 45, 3) := by decide +kernel
theorem dX10_findWays_195 : decode cX10_findWays 195 = .ok (.sipush 256, 3) := by decide +kernel
theorem dX10_findWays_198 : decode cX10_findWays 198 = .ok (.iload_n 1, 1) := by decide +kernel
theorem dX10_findWays_199 : decode cX10_findWays 199 = .ok (.imul, 1) := by decide +kernel
theorem dX10_findWays_200 : decode cX10_findWays 200 = .ok (.iload 5, 2) := by decide +kernel
theorem dX10_findWays_202 : decode cX10_findWays 202 = .ok (.iadd, 1) := by decide +kernel
theorem dX10_findWays_203 : decode cX10_findWays 203 = .ok (.iload 7, 2) := by decide +kernel
theorem dX10_findWays_205 : decode cX10_findWays 205 = .ok (.iastore, 1) := by decide +kernel
theorem dX10_findWays_206 : decode cX10_findWays 206 = .ok (.iinc 5 1, 3) := by decide +kernel
theorem dX10_findWays_209 : decode cX10_findWays 209 = .ok (.goto (-141), 3) := by decide +kernel
theorem dX10_findWays_93 : decode cX10_findWays 93 = .ok (.iload_n 2, 1) := by decide +kernel
theorem dX10_findWays_94 : decode cX10_findWays 94 = .ok (.ifCond .eq 15, 3) := by decide +kernel
theorem dX10_findWays_109 : decode cX10_findWays 109 = .ok (.iconst 0, 1) := by decide +kernel
theorem dX10_findWays_110 : decode cX10_findWays 110 = .ok (.istore 7, 2) := by decide +kernel
theorem dX10_findWays_112 : decode cX10_findWays 112 = .ok (.goto 79, 3) := by decide +kernel
theorem dX10_findWays_37 : decode cX10_findWays 37 = .ok (.iload_n 1, 1) := by decide +kernel
theorem dX10_findWays_38 : decode cX10_findWays 38 = .ok (.ifCond .lt 180, 3) := by decide +kernel
theorem dX10_findWays_218 : decode cX10_findWays 218 = .ok (.return_, 1) := by decide +kernel
theorem dX10_findWays_41 : decode cX10_findWays 41 = .ok (.aload_n 0, 1) := by decide +kernel
theorem dX10_findWays_42 : decode cX10_findWays 42 = .ok (.getfield 81, 3) := by decide +kernel
theorem dX10_findWays_45 : decode cX10_findWays 45 = .ok (.iload_n 1, 1) := by decide +kernel
set_option maxRecDepth 20000 in
theorem ggX10_findWays_X10_hasBit : GoodIn wsX10_findWays wsX10_hasBit := goodIn_r _ [6] (by decide +kernel) (by decide +kernel)
set_option maxRecDepth 20000 in
theorem gX10_findWays_X10_hasBit : GoodIn wsX10_findWays (va_wsS RX10 74 yX10_hasBit wsX10_hasBit) := goodIn_app (goodIn_of _ (by decide +kernel)) ggX10_findWays_X10_hasBit
theorem dX10_findWays_46 : decode cX10_findWays 46 = .ok (.invokestatic 74, 3) := by decide +kernel
theorem dX10_findWays_49 : decode cX10_findWays 49 = .ok (.istore_n 2, 1) := by decide +kernel
theorem dX10_findWays_50 : decode cX10_findWays 50 = .ok (.aload_n 0, 1) := by decide +kernel
theorem dX10_findWays_51 : decode cX10_findWays 51 = .ok (.iload_n 1, 1) := by decide +kernel
theorem dX10_findWays_52 : decode cX10_findWays 52 = .ok (.iconst 0, 1) := by decide +kernel
set_option maxRecDepth 20000 in
theorem ggX10_findWays_X10_mayLie : GoodIn wsX10_findWays wsX10_mayLie := goodIn_r _ [10, 2, 11, 12, 13, 14, 15, 16, 5, 17, 18, 3, 4, 6, 23, 24, 25, 26, 27, 28, 29, 30, 31, 32, 33, 34, 35, 36, 37, 38, 39, 40, 41, 42, 43, 44, 45, 46, 47, 48, 49, 50, 51, 52] (by decide +kernel) (by decide +kernel)
set_option maxRecDepth 20000 in
theorem gX10_findWays_X10_mayLie : GoodIn wsX10_findWays (wsV RX10 194 RX10 yX10_mayLie wsX10_mayLie) := goodIn_app (goodIn_of _ (by decide +kernel)) ggX10_findWays_X10_mayLie
theorem dX10_findWays_53 : decode cX10_findWays 53 = .ok (.invokevirtual 194, 3) := by decide +kernel
theorem dX10_findWays_56 : decode cX10_findWays 56 = .ok (.istore_n 3, 1) := by decide +kernel
theorem dX10_findWays_57 : decode cX10_findWays 57 = .ok (.aload_n 0, 1) := by decide +kernel
theorem dX10_findWays_58 : decode cX10_findWays 58 = .ok (.iload_n 1, 1) := by decide +kernel
theorem dX10_findWays_59 : decode cX10_findWays 59 = .ok (.iconst 1, 1) := by decide +kernel
theorem dX10_findWays_60 : decode cX10_findWays 60 = .ok (.invokevirtual 194, 3) := by decide +kernel
theorem dX10_findWays_63 : decode cX10_findWays 63 = .ok (.istore 4, 2) := by decide +kernel
theorem dX10_findWays_65 : decode cX10_findWays 65 = .ok (.iconst 0, 1) := by decide +kernel
theorem dX10_findWays_66 : decode cX10_findWays 66 = .ok (.istore 5, 2) := by decide +kernel
theorem dX10_findWays_2 : decode cX10_findWays 2 = .ok (.iload_n 1, 1) := by decide +kernel
theorem dX10_findWays_3 : decode cX10_findWays 3 = .ok (.sipush 256, 3) := by decide +kernel
theorem dX10_findWays_6 : decode cX10_findWays 6 = .ok (.if_icmp .ge 28, 3) := by decide +kernel
theorem dX10_findWays_34 : decode cX10_findWays 34 = .ok (.bipush 63, 2) := by decide +kernel
theorem dX10_findWays_36 : decode cX10_findWays 36 = .ok (.istore_n 1, 1) := by decide +kernel
theorem dX10_findWays_9 : decode cX10_findWays 9 = .ok (.aload_n 0, 1) := by decide +kernel
theorem dX10_findWays_10 : decode cX10_findWays 10 = .ok (.getfield 45, 3) := by decide +kernel
theorem dX10_findWays_13 : decode cX10_findWays 13 = .ok (.sipush 16384, 3) := by decide +kernel
theorem dX10_findWays_16 : decode cX10_findWays 16 = .ok (.iload_n 1, 1) := by decide +kernel
theorem dX10_findWays_17 : decode cX10_findWays 17 = .ok (.iadd, 1) := by decide +kernel
theorem dX10_findWays_18 : decode cX10_findWays 18 = .ok (.iload_n 1, 1) := by decide +kernel
theorem dX10_findWays_19 : decode cX10_findWays 19 = .ok (.ifCond .ne 7, 3) := by decide +kernel
theorem dX10_findWays_26 : decode cX10_findWays 26 = .ok (.iconst 0, 1) := by decide +kernel
theorem dX10_findWays_27 : decode cX10_findWays 27 = .ok (.iastore, 1) := by decide +kernel
theorem dX10_findWays_28 : decode cX10_findWays 28 = .ok (.iinc 1 1, 3) := by decide +kernel
theorem dX10_findWays_31 : decode cX10_findWays 31 = .ok (.goto (-29), 3) := by decide +kernel
theorem dX10_findWays_22 : decode cX10_findWays 22 = .ok (.iconst 1, 1) := by decide +kernel
theorem dX10_findWays_23 : decode cX10_findWays 23 = .ok (.goto 4, 3) := by decide +kernel
theorem dX10_findWays_0 : decode cX10_findWays 0 = .ok (.iconst 0, 1) := by decide +kernel
theorem dX10_findWays_1 : decode cX10_findWays 1 = .ok (.istore_n 1, 1) := by decide +kernel
set_option maxRecDepth 20000 in
theorem ihX10_findWays_10 : ∀ w ∈ u_ws RX10 TX10 30, w ∈ wsX10_findWays := by decide +kernel
set_option maxHeartbeats 4000000 in
set_option maxRecDepth 100000 in
theorem hv_X10_findWays (l : Launch) (D : va_G) (cy : Nat → ClassId) (a : Nat → Nat) (sz : Nat)   : Met l yX10_findWays wsX10_findWays ({ frames := 2, cells := 0, slots := 0, locals := 45 }) (va_Pc [.ref (a 0)] (PW D cy sz (MW cy a (fun _ => 0) (fun _ => 0) (fun _ _ => 0) (fun _ _ => 0)))) (va_Qv (fun (u : MS) => ∃ W0 : Nat → Int32, isWays W0 ∧ u = ((fun _ => 0), (fun _ => 0), va_up (fun _ _ => 0) 12 W0, (fun _ _ => 0))) (BW D (va_A (MW cy a (fun _ => 0) (fun _ => 0) (fun _ _ => 0) (fun _ _ => 0)) sz) (MWu cy a)) (va_A (MW cy a (fun _ => 0) (fun _ => 0) (fun _ _ => 0) (fun _ _ => 0)) sz)) 0 0 (va_A (MW cy a (fun _ => 0) (fun _ => 0) (fun _ _ => 0) (fun _ _ => 0)) sz) := by
  refine Met.ofW (cc := cX10_findWays) (maxL := 8) (ret := none) (by decide) rfl ?_
  intro p e s m args below meth c s₁ B hml hv
  obtain ⟨rfl, rfl, hP, hK, hN, hD0⟩ := hv
  have hx := B.exec
  have hb := B.bytes
  have hr := B.returns
  have hts := atoms_spec (ws := wsX10_findWays) B.pre
  have hown : s.vm.findClass RX10 = some m.cls := findClass_of_methodNamed B.named
  have hlocks := B.notSynchronized
  have hw0 := hts (.fieldLink RX10 45 "ParquetLayerModel" "ways" "[I") (by decide +kernel)
  have hw1 := hts (.fieldLink RX10 81 "ParquetLayerModel" "floor" "J") (by decide +kernel)
  have hi10 := ihX10_findWays_10
  have hD := hD0.self (sz := s.heap.size)
  generalize hAe : va_A (MW cy a (fun _ => 0) (fun _ => 0) (fun _ _ => 0) (fun _ _ => 0)) s.heap.size = A at hD ⊢
  have hA : ∀ q : Nat, s.heap.size ≤ q → A q := fun q h => by rw [← hAe]; exact Or.inr h
  have hS : va_S A s.heap s.heap [] := va_S.rf
  have hl := lv_entry ([.ref (a 0)]) (n := 8) (Nat.le_of_ble_eq_true rfl)
  rw [lg_entry_eq]
  generalize (lg_sl ([.ref (a 0)]) ++ List.replicate (8 - (lg_sl ([.ref (a 0)])).length) Slot.unset).toArray = ls at hl ⊢
  have hl : lv_has ls 8 [(0, .ref (a 0))] := hl
  have lp37 : ∀ (n37 : Nat), ∀ (k : Nat) (W0 : Nat → Int32), (k ≤ 64) → (∀ f, k ≤ f → f ≤ 64 → ∀ q, q < 256 → W0 (256 * f + q) = if q = 0 then 1 else 0) → k < n37 → ∀ (H : Heap) (locs : List Loc), va_P D vwCl (MW cy a (fun _ => 0) (fun _ => 0) (va_up (fun _ _ => 0) 12 W0) (fun _ _ => 0)) H → va_D A (MW cy a (fun _ => 0) (fun _ => 0) (va_up (fun _ _ => 0) 12 W0) (fun _ _ => 0)) → va_S A s.heap H locs → ∀ (ls : Array Slot), lv_has ls 8 [(0, .ref (a 0)), (1, .int (dn k))] → W p l e (headSpec wsX10_findWays ({ frames := 2, cells := 0, slots := 0, locals := 45 })).room s m ([.ref (a 0)] : List Value).toArray below meth c H locs 0 0 (MQ below (va_Qv (fun (u : MS) => ∃ W0 : Nat → Int32, isWays W0 ∧ u = ((fun _ => 0), (fun _ => 0), va_up (fun _ _ => 0) 12 W0, (fun _ _ => 0))) (BW D A (MWu cy a)) A) ([.ref (a 0)] : List Value).toArray s 0 0 A) (F0 m 37 ls []) := by
    intro n37
    induction n37 with
    | zero => intro k W0 hk hw hn; exact absurd hn (Nat.not_lt_zero _)
    | succ n37 ih37 =>
      intro k W0 hk hw hn37 H locs hP hD hS ls hl
      have lp68 : ∀ (n68 : Nat), ∀ (q : Nat) (j : Nat) (W0 : Nat → Int32), (q ≤ 256) → (j < 64 ∧ j < n37) → (∀ f, (j + 1) ≤ f → f ≤ 64 → ∀ q, q < 256 → W0 (256 * f + q) = if q = 0 then 1 else 0) → (∀ i, i < q → W0 (256 * j + i) = if i = 0 then 1 else 0) → (256 - q) < n68 → ∀ (H : Heap) (locs : List Loc), va_P D vwCl (MW cy a (fun _ => 0) (fun _ => 0) (va_up (fun _ _ => 0) 12 W0) (fun _ _ => 0)) H → va_D A (MW cy a (fun _ => 0) (fun _ => 0) (va_up (fun _ _ => 0) 12 W0) (fun _ _ => 0)) → va_S A s.heap H locs → ∀ (ls : Array Slot), lv_has ls 8 [(0, .ref (a 0)), (1, .int (nI j)), (2, .int 0), (3, .int 0), (4, .int 0), (5, .int (nI q))] → W p l e (headSpec wsX10_findWays ({ frames := 2, cells := 0, slots := 0, locals := 45 })).room s m ([.ref (a 0)] : List Value).toArray below meth c H locs 0 0 (MQ below (va_Qv (fun (u : MS) => ∃ W0 : Nat → Int32, isWays W0 ∧ u = ((fun _ => 0), (fun _ => 0), va_up (fun _ _ => 0) 12 W0, (fun _ _ => 0))) (BW D A (MWu cy a)) A) ([.ref (a 0)] : List Value).toArray s 0 0 A) (F0 m 68 ls []) := by
        intro n68
        induction n68 with
        | zero => intro q j W0 hq hj hw hq2 hn; exact absurd hn (Nat.not_lt_zero _)
        | succ n68 ih68 =>
          intro q j W0 hq hj hw hq2 hn68 H locs hP hD hS ls hl
          refine lv_iload hx hb dX10_findWays_68 (lv_at hl 5 rfl) ?_
          refine lv_sipush (v := 256) hx hb dX10_findWays_70 (by decide) ?_
          refine lv_icmp_ge (tgt := 212) hx hb dX10_findWays_73 (by decide) (fun c_1 => ?_) (fun c_1 => ?_)
          · have hie := ctr_ge (N := 256) (by decide) hq c_1
            subst hie
            refine lv_iinc (v := (nI j) + (-1)) (lv' := [(1, .int ((nI j) + (-1))), (0, .ref (a 0)), (2, .int 0), (3, .int 0), (4, .int 0), (5, .int (nI 256))]) hx hb dX10_findWays_212 hl (k := 1) rfl rfl (by decide) rfl (fun ls hl => ?_)
            refine lv_goto (tgt := 37) hx hb dX10_findWays_215 (by decide) ?_
            exact ih37 j W0 (by omega) (row_out hw hq2) (by omega) _ _ hP hD hS ls (lv_sub hl [1, 0] rfl)
          · have hlt := ctr_lt (N := 256) (by decide) hq c_1
            refine lv_iload hx hb dX10_findWays_76 (lv_at hl 5 rfl) ?_
            refine lv_iconst (v := 1) hx hb dX10_findWays_78 (by decide) ?_
            refine lv_ishr hx hb dX10_findWays_79 ?_
            refine wtop_i (y := nI (q / 2)) (pk_shrN (by omega) _ 1 (by decide)) ?_
            refine lv_istore (lv' := [(6, .int (nI (q / 2))), (0, .ref (a 0)), (1, .int (nI j)), (2, .int 0), (3, .int 0), (4, .int 0), (5, .int (nI q))]) hx hb dX10_findWays_80 hl (by decide) rfl (fun ls hl => ?_)
            refine lv_iconst (v := 0) hx hb dX10_findWays_82 (by decide) ?_
            refine lv_istore (lv' := [(7, .int 0), (6, .int (nI (q / 2))), (0, .ref (a 0)), (1, .int (nI j)), (2, .int 0), (3, .int 0), (4, .int 0), (5, .int (nI q))]) hx hb dX10_findWays_83 hl (by decide) rfl (fun ls hl => ?_)
            refine lv_iload hx hb dX10_findWays_85 (lv_at hl 7 rfl) ?_
            refine lv_iconst (v := 1) hx hb dX10_findWays_87 (by decide) ?_
            refine lv_iand hx hb dX10_findWays_88 ?_
            refine wtop_i (y := nI (q % 2)) (pk_andN (by omega) 1 (by decide)) ?_
            refine lv_iconst (v := 1) hx hb dX10_findWays_89 (by decide) ?_
            refine lv_icmp_ne (tgt := 115) hx hb dX10_findWays_90 (by decide) (fun c_2 => ?_) (fun c_2 => ?_)
            · refine lv_iload_n hx hb dX10_findWays_115 rfl (lv_at hl 4 rfl) ?_
              refine lv_if_ne (tgt := 133) hx hb dX10_findWays_116 (by decide) (fun c_3 => absurd (by decide) c_3) (fun c_3 => ?_)
              refine lv_aload_n hx hb dX10_findWays_119 rfl (lv_at hl 2 rfl) ?_
              refine lv_iload_n hx hb dX10_findWays_120 rfl (lv_at hl 3 rfl) ?_
              refine lv_iconst (v := 1) hx hb dX10_findWays_121 (by decide) ?_
              refine lv_iadd hx hb dX10_findWays_122 ?_
              refine wtop_i (y := nI (j + 1)) (nI_1 _) ?_
              refine lv_iload hx hb dX10_findWays_123 (lv_at hl 1 rfl) ?_
              refine kR_i (As := [.int (nI (j + 1)), .int (nI (q / 2))]) (rest := []) (q0 := 0) ⟨hx, hb, hml, hown, hts⟩ (c_X10_waysAt l D cy a _ (fun _ => 0) (fun _ => 0) (va_up (fun _ _ => 0) 12 W0) (fun _ _ => 0) (nI (j + 1)) (nI (q / 2)) (ix_w (by omega) (by omega))) (cwV 2 hts gX10_findWays_X10_waysAt rfl rfl rfl (by decide +kernel) ⟨Nat.le_of_ble_eq_true rfl, Nat.le_of_ble_eq_true rfl⟩) hK hN hP hD rfl rfl rfl hl.1 rfl (Nat.le_of_ble_eq_true rfl) dX10_findWays_125 ⟨Nat.le_of_ble_eq_true rfl, Nat.le_of_ble_eq_true rfl⟩ ?_
              refine wtop_i (y := W0 (256 * (j + 1) + q / 2)) (congrArg W0 (wix_cl (by omega))) ?_
              refine lv_istore (lv' := [(7, .int (W0 (256 * (j + 1) + q / 2))), (6, .int (nI (q / 2))), (0, .ref (a 0)), (1, .int (nI j)), (2, .int 0), (3, .int 0), (4, .int 0), (5, .int (nI q))]) hx hb dX10_findWays_128 hl (by decide) rfl (fun ls hl => ?_)
              refine lv_goto (tgt := 191) hx hb dX10_findWays_130 (by decide) ?_
              refine lv_aload_n hx hb dX10_findWays_191 rfl (lv_at hl 2 rfl) ?_
              refine va_get (D := D) (ci := 9) (v := .ref (a 12)) (C := RX10) (T := TX10) (N := 30) hx hb hts hi10 hown hK hP 0 rfl rfl 18 (by decide) hw0 (fun _ h9 => h9) rfl dX10_findWays_192 ?_
              refine lv_sipush (v := 256) hx hb dX10_findWays_195 (by decide) ?_
              refine lv_iload_n hx hb dX10_findWays_198 rfl (lv_at hl 3 rfl) ?_
              refine lv_imul hx hb dX10_findWays_199 ?_
              refine lv_iload hx hb dX10_findWays_200 (lv_at hl 7 rfl) ?_
              refine lv_iadd hx hb dX10_findWays_202 ?_
              refine lv_iload hx hb dX10_findWays_203 (lv_at hl 0 rfl) ?_
              refine va_iast hx hb hK hP hD hS 12 0 rfl rfl (ix_w (by omega) (by omega)) dX10_findWays_205 (fun H locs hP hD hS => ?_)
              have hP : va_P D vwCl (MW cy a (fun _ => 0) (fun _ => 0) (va_up (fun _ _ => 0) 12 (upd W0 ((256 * (nI j)) + (nI q)).toNatClampNeg (W0 (256 * (j + 1) + q / 2)))) (fun _ _ => 0)) H := hP
              have hD : va_D A (MW cy a (fun _ => 0) (fun _ => 0) (va_up (fun _ _ => 0) 12 (upd W0 ((256 * (nI j)) + (nI q)).toNatClampNeg (W0 (256 * (j + 1) + q / 2)))) (fun _ _ => 0)) := hD
              refine lv_iinc (v := nI (q + 1)) (lv' := [(5, .int (nI (q + 1))), (7, .int (W0 (256 * (j + 1) + q / 2))), (6, .int (nI (q / 2))), (0, .ref (a 0)), (1, .int (nI j)), (2, .int 0), (3, .int 0), (4, .int 0)]) hx hb dX10_findWays_206 hl (k := 7) rfl (nI_1 _) (by decide) rfl (fun ls hl => ?_)
              refine lv_goto (tgt := 68) hx hb dX10_findWays_209 (by decide) ?_
              exact ih68 (q + 1) j (upd W0 ((256 * (nI j)) + (nI q)).toNatClampNeg (W0 (256 * (j + 1) + q / 2))) (by omega) hj (by rw [wix_cl (by omega)]; exact row_upd hw (by omega)) (by rw [wix_cl (by omega)]; exact row_in hq2 (by have h8 := par0 (by omega) c_2; rw [hw (j + 1) (by omega) (by omega) (q / 2) (by omega)]; simp only [show (q / 2 = 0) = (q = 0) from propext ⟨fun _ => by omega, fun _ => by omega⟩])) (by omega) _ _ hP hD hS ls (lv_sub hl [3, 4, 5, 6, 7, 0] rfl)
            · refine lv_iload_n hx hb dX10_findWays_93 rfl (lv_at hl 4 rfl) ?_
              refine lv_if_eq (tgt := 109) hx hb dX10_findWays_94 (by decide) (fun c_4 => ?_) (fun c_4 => absurd (by decide) c_4)
              refine lv_iconst (v := 0) hx hb dX10_findWays_109 (by decide) ?_
              refine lv_istore (lv' := [(7, .int 0), (6, .int (nI (q / 2))), (0, .ref (a 0)), (1, .int (nI j)), (2, .int 0), (3, .int 0), (4, .int 0), (5, .int (nI q))]) hx hb dX10_findWays_110 hl (by decide) rfl (fun ls hl => ?_)
              refine lv_goto (tgt := 191) hx hb dX10_findWays_112 (by decide) ?_
              refine lv_aload_n hx hb dX10_findWays_191 rfl (lv_at hl 2 rfl) ?_
              refine va_get (D := D) (ci := 9) (v := .ref (a 12)) (C := RX10) (T := TX10) (N := 30) hx hb hts hi10 hown hK hP 0 rfl rfl 18 (by decide) hw0 (fun _ h9 => h9) rfl dX10_findWays_192 ?_
              refine lv_sipush (v := 256) hx hb dX10_findWays_195 (by decide) ?_
              refine lv_iload_n hx hb dX10_findWays_198 rfl (lv_at hl 3 rfl) ?_
              refine lv_imul hx hb dX10_findWays_199 ?_
              refine lv_iload hx hb dX10_findWays_200 (lv_at hl 7 rfl) ?_
              refine lv_iadd hx hb dX10_findWays_202 ?_
              refine lv_iload hx hb dX10_findWays_203 (lv_at hl 0 rfl) ?_
              refine va_iast hx hb hK hP hD hS 12 0 rfl rfl (ix_w (by omega) (by omega)) dX10_findWays_205 (fun H locs hP hD hS => ?_)
              have hP : va_P D vwCl (MW cy a (fun _ => 0) (fun _ => 0) (va_up (fun _ _ => 0) 12 (upd W0 ((256 * (nI j)) + (nI q)).toNatClampNeg 0)) (fun _ _ => 0)) H := hP
              have hD : va_D A (MW cy a (fun _ => 0) (fun _ => 0) (va_up (fun _ _ => 0) 12 (upd W0 ((256 * (nI j)) + (nI q)).toNatClampNeg 0)) (fun _ _ => 0)) := hD
              refine lv_iinc (v := nI (q + 1)) (lv' := [(5, .int (nI (q + 1))), (7, .int 0), (6, .int (nI (q / 2))), (0, .ref (a 0)), (1, .int (nI j)), (2, .int 0), (3, .int 0), (4, .int 0)]) hx hb dX10_findWays_206 hl (k := 7) rfl (nI_1 _) (by decide) rfl (fun ls hl => ?_)
              refine lv_goto (tgt := 68) hx hb dX10_findWays_209 (by decide) ?_
              exact ih68 (q + 1) j (upd W0 ((256 * (nI j)) + (nI q)).toNatClampNeg 0) (by omega) hj (by rw [wix_cl (by omega)]; exact row_upd hw (by omega)) (by rw [wix_cl (by omega)]; exact row_in hq2 (by have h8 := par1 (by omega) c_2; simp [h8])) (by omega) _ _ hP hD hS ls (lv_sub hl [3, 4, 5, 6, 7, 0] rfl)
      refine lv_iload_n hx hb dX10_findWays_37 rfl (lv_at hl 1 rfl) ?_
      refine lv_if_lt (tgt := 218) hx hb dX10_findWays_38 (by decide) (fun c_5 => ?_) (fun c_5 => ?_)
      · obtain rfl := dn_zero hk c_5
        exact wret_v hx hb hr hlocks ((fun _ => 0), (fun _ => 0), (va_up (fun _ _ => 0) 12 W0), (fun _ _ => 0)) ⟨W0, (fun f h1 q hq => hw f (Nat.zero_le f) h1 q hq), rfl⟩ hP hD hS dX10_findWays_218
      · obtain ⟨j, rfl⟩ := dn_pos c_5
        rw [dn_s] at hl
        refine lv_aload_n hx hb dX10_findWays_41 rfl (lv_at hl 0 rfl) ?_
        refine va_get (D := D) (ci := 9) (v := .long 0) (C := RX10) (T := TX10) (N := 30) hx hb hts hi10 hown hK hP 0 rfl rfl 0 (by decide) hw1 (fun _ h9 => h9) rfl dX10_findWays_42 ?_
        refine lv_iload_n hx hb dX10_findWays_45 rfl (lv_at hl 1 rfl) ?_
        refine kS_i (As := [.long 0, .int (nI j)]) (rest := []) ⟨hx, hb, hml, hown, hts⟩ (c_X10_hasBit l 0 (nI j)) (va_cwS 2 hts gX10_findWays_X10_hasBit rfl rfl rfl (by decide +kernel) ⟨Nat.le_of_ble_eq_true rfl, Nat.le_of_ble_eq_true rfl⟩) rfl hl.1 rfl (Nat.le_of_ble_eq_true rfl) dX10_findWays_46 ⟨Nat.le_of_ble_eq_true rfl, Nat.le_of_ble_eq_true rfl⟩ ?_
        refine wtop_i (y := 0) (by rw [m_hasBit0]; rfl) ?_
        refine lv_istore_n (lv' := [(2, .int 0), (0, .ref (a 0)), (1, .int (nI j))]) hx hb dX10_findWays_49 rfl hl (by decide) rfl (fun ls hl => ?_)
        refine lv_aload_n hx hb dX10_findWays_50 rfl (lv_at hl 1 rfl) ?_
        refine lv_iload_n hx hb dX10_findWays_51 rfl (lv_at hl 2 rfl) ?_
        refine lv_iconst (v := 0) hx hb dX10_findWays_52 (by decide) ?_
        refine kR_i (As := [.int (nI j), .int 0]) (rest := []) (q0 := 0) ⟨hx, hb, hml, hown, hts⟩ (c_X10_mayLie l D cy a _ (va_up (fun _ _ => 0) 12 W0) (nI j) false ) (cwV 2 hts gX10_findWays_X10_mayLie rfl rfl rfl (by decide +kernel) ⟨Nat.le_of_ble_eq_true rfl, Nat.le_of_ble_eq_true rfl⟩) hK hN hP hD rfl rfl rfl hl.1 rfl (Nat.le_of_ble_eq_true rfl) dX10_findWays_53 ⟨Nat.le_of_ble_eq_true rfl, Nat.le_of_ble_eq_true rfl⟩ ?_
        refine lv_istore_n (lv' := [(3, .int 0), (2, .int 0), (0, .ref (a 0)), (1, .int (nI j))]) hx hb dX10_findWays_56 rfl hl (by decide) rfl (fun ls hl => ?_)
        refine lv_aload_n hx hb dX10_findWays_57 rfl (lv_at hl 2 rfl) ?_
        refine lv_iload_n hx hb dX10_findWays_58 rfl (lv_at hl 3 rfl) ?_
        refine lv_iconst (v := 1) hx hb dX10_findWays_59 (by decide) ?_
        refine kR_i (As := [.int (nI j), .int 1]) (rest := []) (q0 := 0) ⟨hx, hb, hml, hown, hts⟩ (c_X10_mayLie l D cy a _ (va_up (fun _ _ => 0) 12 W0) (nI j) true ) (cwV 2 hts gX10_findWays_X10_mayLie rfl rfl rfl (by decide +kernel) ⟨Nat.le_of_ble_eq_true rfl, Nat.le_of_ble_eq_true rfl⟩) hK hN hP hD rfl rfl rfl hl.1 rfl (Nat.le_of_ble_eq_true rfl) dX10_findWays_60 ⟨Nat.le_of_ble_eq_true rfl, Nat.le_of_ble_eq_true rfl⟩ ?_
        refine lv_istore (lv' := [(4, .int 0), (3, .int 0), (2, .int 0), (0, .ref (a 0)), (1, .int (nI j))]) hx hb dX10_findWays_63 hl (by decide) rfl (fun ls hl => ?_)
        refine lv_iconst (v := 0) hx hb dX10_findWays_65 (by decide) ?_
        refine lv_istore (lv' := [(5, .int 0), (4, .int 0), (3, .int 0), (2, .int 0), (0, .ref (a 0)), (1, .int (nI j))]) hx hb dX10_findWays_66 hl (by decide) rfl (fun ls hl => ?_)
        exact lp68 _ 0 j W0 (by omega) (by omega) hw (fun i hi => absurd hi (Nat.not_lt_zero i)) (Nat.lt_succ_self _) _ _ hP hD hS ls (lv_sub hl [4, 5, 3, 2, 1, 0] rfl)
  have lp2 : ∀ (n2 : Nat), ∀ (q : Nat) (W0 : Nat → Int32), (q ≤ 256) → (∀ i, i < q → W0 (256 * 64 + i) = if i = 0 then 1 else 0) → (256 - q) < n2 → ∀ (H : Heap) (locs : List Loc), va_P D vwCl (MW cy a (fun _ => 0) (fun _ => 0) (va_up (fun _ _ => 0) 12 W0) (fun _ _ => 0)) H → va_D A (MW cy a (fun _ => 0) (fun _ => 0) (va_up (fun _ _ => 0) 12 W0) (fun _ _ => 0)) → va_S A s.heap H locs → ∀ (ls : Array Slot), lv_has ls 8 [(0, .ref (a 0)), (1, .int (nI q))] → W p l e (headSpec wsX10_findWays ({ frames := 2, cells := 0, slots := 0, locals := 45 })).room s m ([.ref (a 0)] : List Value).toArray below meth c H locs 0 0 (MQ below (va_Qv (fun (u : MS) => ∃ W0 : Nat → Int32, isWays W0 ∧ u = ((fun _ => 0), (fun _ => 0), va_up (fun _ _ => 0) 12 W0, (fun _ _ => 0))) (BW D A (MWu cy a)) A) ([.ref (a 0)] : List Value).toArray s 0 0 A) (F0 m 2 ls []) := by
    intro n2
    induction n2 with
    | zero => intro q W0 hq h0 hn; exact absurd hn (Nat.not_lt_zero _)
    | succ n2 ih2 =>
      intro q W0 hq h0 hn2 H locs hP hD hS ls hl
      refine lv_iload_n hx hb dX10_findWays_2 rfl (lv_at hl 1 rfl) ?_
      refine lv_sipush (v := 256) hx hb dX10_findWays_3 (by decide) ?_
      refine lv_icmp_ge (tgt := 34) hx hb dX10_findWays_6 (by decide) (fun c_6 => ?_) (fun c_6 => ?_)
      · have hie := ctr_ge (N := 256) (by decide) hq c_6
        subst hie
        refine lv_bipush (v := 63) hx hb dX10_findWays_34 (by decide) ?_
        refine lv_istore_n (lv' := [(1, .int 63), (0, .ref (a 0))]) hx hb dX10_findWays_36 rfl hl (by decide) rfl (fun ls hl => ?_)
        exact lp37 _ 64 W0 (by omega) (fun f hf1 hf2 i hi => by have e : f = 64 := (by omega); subst e; exact h0 i hi) (Nat.lt_succ_self _) _ _ hP hD hS ls (lv_sub hl [1, 0] rfl)
      · have hlt := ctr_lt (N := 256) (by decide) hq c_6
        refine lv_aload_n hx hb dX10_findWays_9 rfl (lv_at hl 0 rfl) ?_
        refine va_get (D := D) (ci := 9) (v := .ref (a 12)) (C := RX10) (T := TX10) (N := 30) hx hb hts hi10 hown hK hP 0 rfl rfl 18 (by decide) hw0 (fun _ h9 => h9) rfl dX10_findWays_10 ?_
        refine lv_sipush (v := 16384) hx hb dX10_findWays_13 (by decide) ?_
        refine lv_iload_n hx hb dX10_findWays_16 rfl (lv_at hl 1 rfl) ?_
        refine lv_iadd hx hb dX10_findWays_17 ?_
        refine lv_iload_n hx hb dX10_findWays_18 rfl (lv_at hl 1 rfl) ?_
        refine lv_if_ne (tgt := 26) hx hb dX10_findWays_19 (by decide) (fun c_7 => ?_) (fun c_7 => ?_)
        · refine lv_iconst (v := 0) hx hb dX10_findWays_26 (by decide) ?_
          refine va_iast hx hb hK hP hD hS 12 0 rfl rfl (ix_0 (by omega)) dX10_findWays_27 (fun H locs hP hD hS => ?_)
          have hP : va_P D vwCl (MW cy a (fun _ => 0) (fun _ => 0) (va_up (fun _ _ => 0) 12 (upd W0 (16384 + (nI q)).toNatClampNeg 0)) (fun _ _ => 0)) H := hP
          have hD : va_D A (MW cy a (fun _ => 0) (fun _ => 0) (va_up (fun _ _ => 0) 12 (upd W0 (16384 + (nI q)).toNatClampNeg 0)) (fun _ _ => 0)) := hD
          refine lv_iinc (v := nI (q + 1)) (lv' := [(1, .int (nI (q + 1))), (0, .ref (a 0))]) hx hb dX10_findWays_28 hl (k := 1) rfl (nI_1 _) (by decide) rfl (fun ls hl => ?_)
          refine lv_goto (tgt := 2) hx hb dX10_findWays_31 (by decide) ?_
          exact ih2 (q + 1) (upd W0 (16384 + (nI q)).toNatClampNeg 0) (by omega) (by rw [ix_0c hlt]; exact row_in h0 (by rw [if_neg (fun z => c_7 (by rw [z]; rfl))])) (by omega) _ _ hP hD hS ls (lv_sub hl [1, 0] rfl)
        · refine lv_iconst (v := 1) hx hb dX10_findWays_22 (by decide) ?_
          refine lv_goto (tgt := 27) hx hb dX10_findWays_23 (by decide) ?_
          refine va_iast hx hb hK hP hD hS 12 0 rfl rfl (ix_0 (by omega)) dX10_findWays_27 (fun H locs hP hD hS => ?_)
          have hP : va_P D vwCl (MW cy a (fun _ => 0) (fun _ => 0) (va_up (fun _ _ => 0) 12 (upd W0 (16384 + (nI q)).toNatClampNeg 1)) (fun _ _ => 0)) H := hP
          have hD : va_D A (MW cy a (fun _ => 0) (fun _ => 0) (va_up (fun _ _ => 0) 12 (upd W0 (16384 + (nI q)).toNatClampNeg 1)) (fun _ _ => 0)) := hD
          refine lv_iinc (v := nI (q + 1)) (lv' := [(1, .int (nI (q + 1))), (0, .ref (a 0))]) hx hb dX10_findWays_28 hl (k := 1) rfl (nI_1 _) (by decide) rfl (fun ls hl => ?_)
          refine lv_goto (tgt := 2) hx hb dX10_findWays_31 (by decide) ?_
          exact ih2 (q + 1) (upd W0 (16384 + (nI q)).toNatClampNeg 1) (by omega) (by rw [ix_0c hlt]; exact row_in h0 (by rw [if_pos ((nI_eq (b := 0) (by omega) (by decide)).mp c_7)])) (by omega) _ _ hP hD hS ls (lv_sub hl [1, 0] rfl)
  refine lv_iconst (v := 0) hx hb dX10_findWays_0 (by decide) ?_
  refine lv_istore_n (lv' := [(1, .int 0), (0, .ref (a 0))]) hx hb dX10_findWays_1 rfl hl (by decide) rfl (fun ls hl => ?_)
  exact lp2 _ 0 (fun _ => 0) (by omega) (fun i hi => absurd hi (Nat.not_lt_zero i)) (Nat.lt_succ_self _) _ _ hP hD hS ls (lv_sub hl [1, 0] rfl)
