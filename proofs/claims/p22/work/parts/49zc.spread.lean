set_option maxHeartbeats 4000000 in
set_option maxRecDepth 100000 in
theorem x_X10_spread13 (l : Launch) (D : va_G) (cy : Nat → ClassId) (a : Nat → Nat) (sz : Nat) (J : Nat → Int64) (I : Nat → Int32) (R : Nat → Nat → Int32) (RJ : Nat → Nat → Int64) (x1 : Nat) (x2 : Nat) (x3 : Int32) (hp : x1 < 81) (hq : x2 < 81) (hby : x3 = 1 ∨ x3 = -1) (hH : hB (R 13)) : Met l yX10_spread wsX10_spread ({ frames := 0, cells := 0, slots := 0, locals := 0 }) (va_Pc [.ref (a 13), .int (nI x1), .int (nI x2), .int x3] (PW D cy sz (MW cy a J I R RJ))) (va_Qi (fun r (u : MS) => ∃ (w0 : Nat → Int32), ∃ (b : Bool), (r = bI b ∧ (hB w0) ∧ (cF w0 81 + bN b ≤ cF (R 13) 81) ∧ (spP (R 13) w0 x1 x2 x3 b)) ∧ u = (J, I, (va_up R 13 w0), RJ)) (BW D (va_A (MW cy a J I R RJ) sz) (MWu cy a)) (va_A (MW cy a J I R RJ) sz)) 0 0 (va_A (MW cy a J I R RJ) sz) := by
  refine Met.ofW (cc := cX10_spread) (maxL := 4) (ret := (some .boolean)) (by decide) rfl ?_
  intro p e s m args below meth c s₁ B hml hv
  obtain ⟨rfl, rfl, hP, hK, hN, hD0⟩ := hv
  have hx := B.exec
  have hb := B.bytes
  have hr := B.returns
  have hts := atoms_spec (ws := wsX10_spread) B.pre
  have hown : s.vm.findClass RX10 = some m.cls := findClass_of_methodNamed B.named
  have hlocks := B.notSynchronized
  have hw0 := hts (.constant RX10 242 (1000000)) (by decide +kernel)
  have hD := hD0.self (sz := s.heap.size)
  generalize hAe : va_A (MW cy a J I R RJ) s.heap.size = A at hD ⊢
  have hA : ∀ q : Nat, s.heap.size ≤ q → A q := fun q h => by rw [← hAe]; exact Or.inr h
  have hS : va_S A s.heap s.heap [] := va_S.rf
  have hl := lv_entry ([.ref (a 13), .int (nI x1), .int (nI x2), .int x3]) (n := 4) (Nat.le_of_ble_eq_true rfl)
  rw [lg_entry_eq]
  generalize (lg_sl ([.ref (a 13), .int (nI x1), .int (nI x2), .int x3]) ++ List.replicate (4 - (lg_sl ([.ref (a 13), .int (nI x1), .int (nI x2), .int x3])).length) Slot.unset).toArray = ls at hl ⊢
  have hl : lv_has ls 4 [(0, .ref (a 13)), (1, .int (nI x1)), (2, .int (nI x2)), (3, .int x3)] := hl
  have hP : va_P D vwCl (MW cy a J I (va_up R 13 (R 13)) RJ) s.heap := hP
  have hD : va_D A (MW cy a J I (va_up R 13 (R 13)) RJ) := hD
  refine lv_aload_n hx hb dX10_spread_0 rfl (lv_at hl 0 rfl) ?_
  refine lv_iload_n hx hb dX10_spread_1 rfl (lv_at hl 1 rfl) ?_
  refine va_iald hx hb hK hP 13 0 rfl rfl (vp_in_nI hp (by decide)) dX10_spread_2 ?_
  refine lv_ldc (v := 1000000) hx hb hown hw0 dX10_spread_3 ?_
  refine lv_icmp_eq (tgt := 26) hx hb dX10_spread_5 (by decide) (fun c_1 => ?_) (fun c_1 => ?_)
  · refine lv_aload_n hx hb dX10_spread_26 rfl (lv_at hl 0 rfl) ?_
    refine lv_iload_n hx hb dX10_spread_27 rfl (lv_at hl 2 rfl) ?_
    refine va_iald hx hb hK hP 13 0 rfl rfl (vp_in_nI hq (by decide)) dX10_spread_28 ?_
    refine lv_ldc (v := 1000000) hx hb hown hw0 dX10_spread_29 ?_
    refine lv_icmp_eq (tgt := 52) hx hb dX10_spread_31 (by decide) (fun c_2 => ?_) (fun c_2 => ?_)
    · refine lv_iconst (v := 0) hx hb dX10_spread_52 (by decide) ?_
      exact wret_z hx hb hr hlocks rfl (J, I, (va_up R 13 (R 13)), RJ) ⟨(R 13), false, ⟨rfl, (spr_0 hH).1, (spr_0 hH).2, (spP_0 hp hq (iff_of_true c_1 c_2))⟩, rfl⟩ hP hD hS dX10_spread_53
    · refine lv_aload_n hx hb dX10_spread_34 rfl (lv_at hl 0 rfl) ?_
      refine lv_iload_n hx hb dX10_spread_35 rfl (lv_at hl 1 rfl) ?_
      refine va_iald hx hb hK hP 13 0 rfl rfl (vp_in_nI hp (by decide)) dX10_spread_36 ?_
      refine lv_ldc (v := 1000000) hx hb hown hw0 dX10_spread_37 ?_
      refine lv_icmp_ne (tgt := 52) hx hb dX10_spread_39 (by decide) (fun c_3 => ?_) (fun c_3 => ?_)
      · refine lv_iconst (v := 0) hx hb dX10_spread_52 (by decide) ?_
        exact wret_z hx hb hr hlocks rfl (J, I, (va_up R 13 (R 13)), RJ) ⟨(R 13), false, ⟨rfl, (spr_0 hH).1, (spr_0 hH).2, (spP_0 hp hq (absurd c_1 c_3))⟩, rfl⟩ hP hD hS dX10_spread_53
      · refine lv_aload_n hx hb dX10_spread_42 rfl (lv_at hl 0 rfl) ?_
        refine lv_iload_n hx hb dX10_spread_43 rfl (lv_at hl 1 rfl) ?_
        refine lv_aload_n hx hb dX10_spread_44 rfl (lv_at hl 0 rfl) ?_
        refine lv_iload_n hx hb dX10_spread_45 rfl (lv_at hl 2 rfl) ?_
        refine va_iald hx hb hK hP 13 0 rfl rfl (vp_in_nI hq (by decide)) dX10_spread_46 ?_
        refine lv_iload_n hx hb dX10_spread_47 rfl (lv_at hl 3 rfl) ?_
        refine lv_isub hx hb dX10_spread_48 ?_
        refine va_iast hx hb hK hP hD hS 13 0 rfl rfl (vp_in_nI hp (by decide)) dX10_spread_49 (fun H locs hP hD hS => ?_)
        have hP : va_P D vwCl (MW cy a J I (va_up R 13 (upd (R 13) (nI x1).toNatClampNeg (((R 13) (nI x2).toNatClampNeg) - x3))) RJ) H := hP
        have hD : va_D A (MW cy a J I (va_up R 13 (upd (R 13) (nI x1).toNatClampNeg (((R 13) (nI x2).toNatClampNeg) - x3))) RJ) := hD
        refine lv_iconst (v := 1) hx hb dX10_spread_50 (by decide) ?_
        exact wret_z hx hb hr hlocks rfl (J, I, (va_up R 13 (upd (R 13) (nI x1).toNatClampNeg (((R 13) (nI x2).toNatClampNeg) - x3))), RJ) ⟨(upd (R 13) (nI x1).toNatClampNeg (((R 13) (nI x2).toNatClampNeg) - x3)), true, ⟨rfl, (spr_m hp hq hH hby c_2 c_3).1, (spr_m hp hq hH hby c_2 c_3).2, (spP_m hp hq c_2 c_3)⟩, rfl⟩ hP hD hS dX10_spread_51
  · refine lv_aload_n hx hb dX10_spread_8 rfl (lv_at hl 0 rfl) ?_
    refine lv_iload_n hx hb dX10_spread_9 rfl (lv_at hl 2 rfl) ?_
    refine va_iald hx hb hK hP 13 0 rfl rfl (vp_in_nI hq (by decide)) dX10_spread_10 ?_
    refine lv_ldc (v := 1000000) hx hb hown hw0 dX10_spread_11 ?_
    refine lv_icmp_ne (tgt := 26) hx hb dX10_spread_13 (by decide) (fun c_4 => ?_) (fun c_4 => ?_)
    · refine lv_aload_n hx hb dX10_spread_26 rfl (lv_at hl 0 rfl) ?_
      refine lv_iload_n hx hb dX10_spread_27 rfl (lv_at hl 2 rfl) ?_
      refine va_iald hx hb hK hP 13 0 rfl rfl (vp_in_nI hq (by decide)) dX10_spread_28 ?_
      refine lv_ldc (v := 1000000) hx hb hown hw0 dX10_spread_29 ?_
      refine lv_icmp_eq (tgt := 52) hx hb dX10_spread_31 (by decide) (fun c_5 => ?_) (fun c_5 => ?_)
      · refine lv_iconst (v := 0) hx hb dX10_spread_52 (by decide) ?_
        exact wret_z hx hb hr hlocks rfl (J, I, (va_up R 13 (R 13)), RJ) ⟨(R 13), false, ⟨rfl, (spr_0 hH).1, (spr_0 hH).2, (spP_0 hp hq (absurd c_5 c_4))⟩, rfl⟩ hP hD hS dX10_spread_53
      · refine lv_aload_n hx hb dX10_spread_34 rfl (lv_at hl 0 rfl) ?_
        refine lv_iload_n hx hb dX10_spread_35 rfl (lv_at hl 1 rfl) ?_
        refine va_iald hx hb hK hP 13 0 rfl rfl (vp_in_nI hp (by decide)) dX10_spread_36 ?_
        refine lv_ldc (v := 1000000) hx hb hown hw0 dX10_spread_37 ?_
        refine lv_icmp_ne (tgt := 52) hx hb dX10_spread_39 (by decide) (fun c_6 => ?_) (fun c_6 => ?_)
        · refine lv_iconst (v := 0) hx hb dX10_spread_52 (by decide) ?_
          exact wret_z hx hb hr hlocks rfl (J, I, (va_up R 13 (R 13)), RJ) ⟨(R 13), false, ⟨rfl, (spr_0 hH).1, (spr_0 hH).2, (spP_0 hp hq (iff_of_false c_1 c_4))⟩, rfl⟩ hP hD hS dX10_spread_53
        · refine lv_aload_n hx hb dX10_spread_42 rfl (lv_at hl 0 rfl) ?_
          refine lv_iload_n hx hb dX10_spread_43 rfl (lv_at hl 1 rfl) ?_
          refine lv_aload_n hx hb dX10_spread_44 rfl (lv_at hl 0 rfl) ?_
          refine lv_iload_n hx hb dX10_spread_45 rfl (lv_at hl 2 rfl) ?_
          refine va_iald hx hb hK hP 13 0 rfl rfl (vp_in_nI hq (by decide)) dX10_spread_46 ?_
          refine lv_iload_n hx hb dX10_spread_47 rfl (lv_at hl 3 rfl) ?_
          refine lv_isub hx hb dX10_spread_48 ?_
          refine va_iast hx hb hK hP hD hS 13 0 rfl rfl (vp_in_nI hp (by decide)) dX10_spread_49 (fun H locs hP hD hS => ?_)
          have hP : va_P D vwCl (MW cy a J I (va_up R 13 (upd (R 13) (nI x1).toNatClampNeg (((R 13) (nI x2).toNatClampNeg) - x3))) RJ) H := hP
          have hD : va_D A (MW cy a J I (va_up R 13 (upd (R 13) (nI x1).toNatClampNeg (((R 13) (nI x2).toNatClampNeg) - x3))) RJ) := hD
          refine lv_iconst (v := 1) hx hb dX10_spread_50 (by decide) ?_
          exact wret_z hx hb hr hlocks rfl (J, I, (va_up R 13 (upd (R 13) (nI x1).toNatClampNeg (((R 13) (nI x2).toNatClampNeg) - x3))), RJ) ⟨(upd (R 13) (nI x1).toNatClampNeg (((R 13) (nI x2).toNatClampNeg) - x3)), true, ⟨rfl, (spr_m hp hq hH hby c_5 c_6).1, (spr_m hp hq hH hby c_5 c_6).2, (spP_m hp hq c_5 c_6)⟩, rfl⟩ hP hD hS dX10_spread_51
    · refine lv_aload_n hx hb dX10_spread_16 rfl (lv_at hl 0 rfl) ?_
      refine lv_iload_n hx hb dX10_spread_17 rfl (lv_at hl 2 rfl) ?_
      refine lv_aload_n hx hb dX10_spread_18 rfl (lv_at hl 0 rfl) ?_
      refine lv_iload_n hx hb dX10_spread_19 rfl (lv_at hl 1 rfl) ?_
      refine va_iald hx hb hK hP 13 0 rfl rfl (vp_in_nI hp (by decide)) dX10_spread_20 ?_
      refine lv_iload_n hx hb dX10_spread_21 rfl (lv_at hl 3 rfl) ?_
      refine lv_iadd hx hb dX10_spread_22 ?_
      refine va_iast hx hb hK hP hD hS 13 0 rfl rfl (vp_in_nI hq (by decide)) dX10_spread_23 (fun H locs hP hD hS => ?_)
      have hP : va_P D vwCl (MW cy a J I (va_up R 13 (upd (R 13) (nI x2).toNatClampNeg (((R 13) (nI x1).toNatClampNeg) + x3))) RJ) H := hP
      have hD : va_D A (MW cy a J I (va_up R 13 (upd (R 13) (nI x2).toNatClampNeg (((R 13) (nI x1).toNatClampNeg) + x3))) RJ) := hD
      refine lv_iconst (v := 1) hx hb dX10_spread_24 (by decide) ?_
      exact wret_z hx hb hr hlocks rfl (J, I, (va_up R 13 (upd (R 13) (nI x2).toNatClampNeg (((R 13) (nI x1).toNatClampNeg) + x3))), RJ) ⟨(upd (R 13) (nI x2).toNatClampNeg (((R 13) (nI x1).toNatClampNeg) + x3)), true, ⟨rfl, (spr_p hp hq hH hby c_1 c_4).1, (spr_p hp hq hH hby c_1 c_4).2, (spP_p hp hq c_1 c_4)⟩, rfl⟩ hP hD hS dX10_spread_25
set_option maxHeartbeats 4000000 in
set_option maxRecDepth 100000 in
theorem x_X10_spread14 (l : Launch) (D : va_G) (cy : Nat → ClassId) (a : Nat → Nat) (sz : Nat) (J : Nat → Int64) (I : Nat → Int32) (R : Nat → Nat → Int32) (RJ : Nat → Nat → Int64) (x1 : Nat) (x2 : Nat) (x3 : Int32) (hp : x1 < 81) (hq : x2 < 81) (hby : x3 = 1 ∨ x3 = -1) (hH : hB (R 14)) : Met l yX10_spread wsX10_spread ({ frames := 0, cells := 0, slots := 0, locals := 0 }) (va_Pc [.ref (a 14), .int (nI x1), .int (nI x2), .int x3] (PW D cy sz (MW cy a J I R RJ))) (va_Qi (fun r (u : MS) => ∃ (w0 : Nat → Int32), ∃ (b : Bool), (r = bI b ∧ (hB w0) ∧ (cF w0 81 + bN b ≤ cF (R 14) 81) ∧ (spP (R 14) w0 x1 x2 x3 b)) ∧ u = (J, I, (va_up R 14 w0), RJ)) (BW D (va_A (MW cy a J I R RJ) sz) (MWu cy a)) (va_A (MW cy a J I R RJ) sz)) 0 0 (va_A (MW cy a J I R RJ) sz) := by
  refine Met.ofW (cc := cX10_spread) (maxL := 4) (ret := (some .boolean)) (by decide) rfl ?_
  intro p e s m args below meth c s₁ B hml hv
  obtain ⟨rfl, rfl, hP, hK, hN, hD0⟩ := hv
  have hx := B.exec
  have hb := B.bytes
  have hr := B.returns
  have hts := atoms_spec (ws := wsX10_spread) B.pre
  have hown : s.vm.findClass RX10 = some m.cls := findClass_of_methodNamed B.named
  have hlocks := B.notSynchronized
  have hw0 := hts (.constant RX10 242 (1000000)) (by decide +kernel)
  have hD := hD0.self (sz := s.heap.size)
  generalize hAe : va_A (MW cy a J I R RJ) s.heap.size = A at hD ⊢
  have hA : ∀ q : Nat, s.heap.size ≤ q → A q := fun q h => by rw [← hAe]; exact Or.inr h
  have hS : va_S A s.heap s.heap [] := va_S.rf
  have hl := lv_entry ([.ref (a 14), .int (nI x1), .int (nI x2), .int x3]) (n := 4) (Nat.le_of_ble_eq_true rfl)
  rw [lg_entry_eq]
  generalize (lg_sl ([.ref (a 14), .int (nI x1), .int (nI x2), .int x3]) ++ List.replicate (4 - (lg_sl ([.ref (a 14), .int (nI x1), .int (nI x2), .int x3])).length) Slot.unset).toArray = ls at hl ⊢
  have hl : lv_has ls 4 [(0, .ref (a 14)), (1, .int (nI x1)), (2, .int (nI x2)), (3, .int x3)] := hl
  have hP : va_P D vwCl (MW cy a J I (va_up R 14 (R 14)) RJ) s.heap := hP
  have hD : va_D A (MW cy a J I (va_up R 14 (R 14)) RJ) := hD
  refine lv_aload_n hx hb dX10_spread_0 rfl (lv_at hl 0 rfl) ?_
  refine lv_iload_n hx hb dX10_spread_1 rfl (lv_at hl 1 rfl) ?_
  refine va_iald hx hb hK hP 14 0 rfl rfl (vp_in_nI hp (by decide)) dX10_spread_2 ?_
  refine lv_ldc (v := 1000000) hx hb hown hw0 dX10_spread_3 ?_
  refine lv_icmp_eq (tgt := 26) hx hb dX10_spread_5 (by decide) (fun c_1 => ?_) (fun c_1 => ?_)
  · refine lv_aload_n hx hb dX10_spread_26 rfl (lv_at hl 0 rfl) ?_
    refine lv_iload_n hx hb dX10_spread_27 rfl (lv_at hl 2 rfl) ?_
    refine va_iald hx hb hK hP 14 0 rfl rfl (vp_in_nI hq (by decide)) dX10_spread_28 ?_
    refine lv_ldc (v := 1000000) hx hb hown hw0 dX10_spread_29 ?_
    refine lv_icmp_eq (tgt := 52) hx hb dX10_spread_31 (by decide) (fun c_2 => ?_) (fun c_2 => ?_)
    · refine lv_iconst (v := 0) hx hb dX10_spread_52 (by decide) ?_
      exact wret_z hx hb hr hlocks rfl (J, I, (va_up R 14 (R 14)), RJ) ⟨(R 14), false, ⟨rfl, (spr_0 hH).1, (spr_0 hH).2, (spP_0 hp hq (iff_of_true c_1 c_2))⟩, rfl⟩ hP hD hS dX10_spread_53
    · refine lv_aload_n hx hb dX10_spread_34 rfl (lv_at hl 0 rfl) ?_
      refine lv_iload_n hx hb dX10_spread_35 rfl (lv_at hl 1 rfl) ?_
      refine va_iald hx hb hK hP 14 0 rfl rfl (vp_in_nI hp (by decide)) dX10_spread_36 ?_
      refine lv_ldc (v := 1000000) hx hb hown hw0 dX10_spread_37 ?_
      refine lv_icmp_ne (tgt := 52) hx hb dX10_spread_39 (by decide) (fun c_3 => ?_) (fun c_3 => ?_)
      · refine lv_iconst (v := 0) hx hb dX10_spread_52 (by decide) ?_
        exact wret_z hx hb hr hlocks rfl (J, I, (va_up R 14 (R 14)), RJ) ⟨(R 14), false, ⟨rfl, (spr_0 hH).1, (spr_0 hH).2, (spP_0 hp hq (absurd c_1 c_3))⟩, rfl⟩ hP hD hS dX10_spread_53
      · refine lv_aload_n hx hb dX10_spread_42 rfl (lv_at hl 0 rfl) ?_
        refine lv_iload_n hx hb dX10_spread_43 rfl (lv_at hl 1 rfl) ?_
        refine lv_aload_n hx hb dX10_spread_44 rfl (lv_at hl 0 rfl) ?_
        refine lv_iload_n hx hb dX10_spread_45 rfl (lv_at hl 2 rfl) ?_
        refine va_iald hx hb hK hP 14 0 rfl rfl (vp_in_nI hq (by decide)) dX10_spread_46 ?_
        refine lv_iload_n hx hb dX10_spread_47 rfl (lv_at hl 3 rfl) ?_
        refine lv_isub hx hb dX10_spread_48 ?_
        refine va_iast hx hb hK hP hD hS 14 0 rfl rfl (vp_in_nI hp (by decide)) dX10_spread_49 (fun H locs hP hD hS => ?_)
        have hP : va_P D vwCl (MW cy a J I (va_up R 14 (upd (R 14) (nI x1).toNatClampNeg (((R 14) (nI x2).toNatClampNeg) - x3))) RJ) H := hP
        have hD : va_D A (MW cy a J I (va_up R 14 (upd (R 14) (nI x1).toNatClampNeg (((R 14) (nI x2).toNatClampNeg) - x3))) RJ) := hD
        refine lv_iconst (v := 1) hx hb dX10_spread_50 (by decide) ?_
        exact wret_z hx hb hr hlocks rfl (J, I, (va_up R 14 (upd (R 14) (nI x1).toNatClampNeg (((R 14) (nI x2).toNatClampNeg) - x3))), RJ) ⟨(upd (R 14) (nI x1).toNatClampNeg (((R 14) (nI x2).toNatClampNeg) - x3)), true, ⟨rfl, (spr_m hp hq hH hby c_2 c_3).1, (spr_m hp hq hH hby c_2 c_3).2, (spP_m hp hq c_2 c_3)⟩, rfl⟩ hP hD hS dX10_spread_51
  · refine lv_aload_n hx hb dX10_spread_8 rfl (lv_at hl 0 rfl) ?_
    refine lv_iload_n hx hb dX10_spread_9 rfl (lv_at hl 2 rfl) ?_
    refine va_iald hx hb hK hP 14 0 rfl rfl (vp_in_nI hq (by decide)) dX10_spread_10 ?_
    refine lv_ldc (v := 1000000) hx hb hown hw0 dX10_spread_11 ?_
    refine lv_icmp_ne (tgt := 26) hx hb dX10_spread_13 (by decide) (fun c_4 => ?_) (fun c_4 => ?_)
    · refine lv_aload_n hx hb dX10_spread_26 rfl (lv_at hl 0 rfl) ?_
      refine lv_iload_n hx hb dX10_spread_27 rfl (lv_at hl 2 rfl) ?_
      refine va_iald hx hb hK hP 14 0 rfl rfl (vp_in_nI hq (by decide)) dX10_spread_28 ?_
      refine lv_ldc (v := 1000000) hx hb hown hw0 dX10_spread_29 ?_
      refine lv_icmp_eq (tgt := 52) hx hb dX10_spread_31 (by decide) (fun c_5 => ?_) (fun c_5 => ?_)
      · refine lv_iconst (v := 0) hx hb dX10_spread_52 (by decide) ?_
        exact wret_z hx hb hr hlocks rfl (J, I, (va_up R 14 (R 14)), RJ) ⟨(R 14), false, ⟨rfl, (spr_0 hH).1, (spr_0 hH).2, (spP_0 hp hq (absurd c_5 c_4))⟩, rfl⟩ hP hD hS dX10_spread_53
      · refine lv_aload_n hx hb dX10_spread_34 rfl (lv_at hl 0 rfl) ?_
        refine lv_iload_n hx hb dX10_spread_35 rfl (lv_at hl 1 rfl) ?_
        refine va_iald hx hb hK hP 14 0 rfl rfl (vp_in_nI hp (by decide)) dX10_spread_36 ?_
        refine lv_ldc (v := 1000000) hx hb hown hw0 dX10_spread_37 ?_
        refine lv_icmp_ne (tgt := 52) hx hb dX10_spread_39 (by decide) (fun c_6 => ?_) (fun c_6 => ?_)
        · refine lv_iconst (v := 0) hx hb dX10_spread_52 (by decide) ?_
          exact wret_z hx hb hr hlocks rfl (J, I, (va_up R 14 (R 14)), RJ) ⟨(R 14), false, ⟨rfl, (spr_0 hH).1, (spr_0 hH).2, (spP_0 hp hq (iff_of_false c_1 c_4))⟩, rfl⟩ hP hD hS dX10_spread_53
        · refine lv_aload_n hx hb dX10_spread_42 rfl (lv_at hl 0 rfl) ?_
          refine lv_iload_n hx hb dX10_spread_43 rfl (lv_at hl 1 rfl) ?_
          refine lv_aload_n hx hb dX10_spread_44 rfl (lv_at hl 0 rfl) ?_
          refine lv_iload_n hx hb dX10_spread_45 rfl (lv_at hl 2 rfl) ?_
          refine va_iald hx hb hK hP 14 0 rfl rfl (vp_in_nI hq (by decide)) dX10_spread_46 ?_
          refine lv_iload_n hx hb dX10_spread_47 rfl (lv_at hl 3 rfl) ?_
          refine lv_isub hx hb dX10_spread_48 ?_
          refine va_iast hx hb hK hP hD hS 14 0 rfl rfl (vp_in_nI hp (by decide)) dX10_spread_49 (fun H locs hP hD hS => ?_)
          have hP : va_P D vwCl (MW cy a J I (va_up R 14 (upd (R 14) (nI x1).toNatClampNeg (((R 14) (nI x2).toNatClampNeg) - x3))) RJ) H := hP
          have hD : va_D A (MW cy a J I (va_up R 14 (upd (R 14) (nI x1).toNatClampNeg (((R 14) (nI x2).toNatClampNeg) - x3))) RJ) := hD
          refine lv_iconst (v := 1) hx hb dX10_spread_50 (by decide) ?_
          exact wret_z hx hb hr hlocks rfl (J, I, (va_up R 14 (upd (R 14) (nI x1).toNatClampNeg (((R 14) (nI x2).toNatClampNeg) - x3))), RJ) ⟨(upd (R 14) (nI x1).toNatClampNeg (((R 14) (nI x2).toNatClampNeg) - x3)), true, ⟨rfl, (spr_m hp hq hH hby c_5 c_6).1, (spr_m hp hq hH hby c_5 c_6).2, (spP_m hp hq c_5 c_6)⟩, rfl⟩ hP hD hS dX10_spread_51
    · refine lv_aload_n hx hb dX10_spread_16 rfl (lv_at hl 0 rfl) ?_
      refine lv_iload_n hx hb dX10_spread_17 rfl (lv_at hl 2 rfl) ?_
      refine lv_aload_n hx hb dX10_spread_18 rfl (lv_at hl 0 rfl) ?_
      refine lv_iload_n hx hb dX10_spread_19 rfl (lv_at hl 1 rfl) ?_
      refine va_iald hx hb hK hP 14 0 rfl rfl (vp_in_nI hp (by decide)) dX10_spread_20 ?_
      refine lv_iload_n hx hb dX10_spread_21 rfl (lv_at hl 3 rfl) ?_
      refine lv_iadd hx hb dX10_spread_22 ?_
      refine va_iast hx hb hK hP hD hS 14 0 rfl rfl (vp_in_nI hq (by decide)) dX10_spread_23 (fun H locs hP hD hS => ?_)
      have hP : va_P D vwCl (MW cy a J I (va_up R 14 (upd (R 14) (nI x2).toNatClampNeg (((R 14) (nI x1).toNatClampNeg) + x3))) RJ) H := hP
      have hD : va_D A (MW cy a J I (va_up R 14 (upd (R 14) (nI x2).toNatClampNeg (((R 14) (nI x1).toNatClampNeg) + x3))) RJ) := hD
      refine lv_iconst (v := 1) hx hb dX10_spread_24 (by decide) ?_
      exact wret_z hx hb hr hlocks rfl (J, I, (va_up R 14 (upd (R 14) (nI x2).toNatClampNeg (((R 14) (nI x1).toNatClampNeg) + x3))), RJ) ⟨(upd (R 14) (nI x2).toNatClampNeg (((R 14) (nI x1).toNatClampNeg) + x3)), true, ⟨rfl, (spr_p hp hq hH hby c_1 c_4).1, (spr_p hp hq hH hby c_1 c_4).2, (spP_p hp hq c_1 c_4)⟩, rfl⟩ hP hD hS dX10_spread_25
