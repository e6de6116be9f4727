set_option maxHeartbeats 4000000 in
set_option maxRecDepth 100000 in
theorem x_X2_riseRight (l : Launch) (x0 : Int32) (x1 : Int32) : Met l yX2_riseRight wsX2_riseRight ({ frames := 0, cells := 0, slots := 0, locals := 0 }) (va_Pc [.int x0, .int x1] (fun _ => True)) (vp_Si (fun r => r = g_rise x0 x1)) 0 0 (fun _ => False) := by
  refine Met.ofW (cc := cX2_riseRight) (maxL := 2) (ret := (some .int)) (by decide) rfl ?_
  intro p e s m args below meth c s₁ B hml hv
  obtain ⟨rfl, -⟩ := hv
  have hx := B.exec
  have hb := B.bytes
  have hr := B.returns
  have hts := atoms_spec (ws := wsX2_riseRight) B.pre
  have hown : s.vm.findClass RX2 = some m.cls := findClass_of_methodNamed B.named
  have hlocks := B.notSynchronized
  have hl := lv_entry ([.int x0, .int x1]) (n := 2) (Nat.le_of_ble_eq_true rfl)
  rw [lg_entry_eq]
  generalize (lg_sl ([.int x0, .int x1]) ++ List.replicate (2 - (lg_sl ([.int x0, .int x1])).length) Slot.unset).toArray = ls at hl ⊢
  have hl : lv_has ls 2 [(0, .int x0), (1, .int x1)] := hl
  refine lv_iload_n hx hb dX2_riseRight_0 rfl (lv_at hl 0 rfl) ?_
  refine lv_iload_n hx hb dX2_riseRight_1 rfl (lv_at hl 1 rfl) ?_
  refine lv_iadd hx hb dX2_riseRight_2 ?_
  refine lv_iconst (v := 1) hx hb dX2_riseRight_3 (by decide) ?_
  refine lv_iand hx hb dX2_riseRight_4 ?_
  refine lv_iconst (v := 1) hx hb dX2_riseRight_5 (by decide) ?_
  refine lv_icmp_ne (tgt := 13) hx hb dX2_riseRight_6 (by decide) (fun c_1 => ?_) (fun c_1 => ?_)
  · refine lv_iconst (v := (-1)) hx hb dX2_riseRight_13 (by decide) ?_
    exact pret_i hx hb hr hlocks (gr_2 c_1) dX2_riseRight_14
  · refine lv_iconst (v := 1) hx hb dX2_riseRight_9 (by decide) ?_
    refine lv_goto (tgt := 14) hx hb dX2_riseRight_10 (by decide) ?_
    exact pret_i hx hb hr hlocks (gr_1 c_1) dX2_riseRight_14
set_option maxHeartbeats 4000000 in
set_option maxRecDepth 100000 in
theorem x_X2_isOpenFlat (l : Launch) (D : va_G) (cy : Nat → ClassId) (sz : Nat) (ws : va_W) (k0 b : Nat) (fn : Int32) (fa fb : Int64) (he0 : ws[k0]? = some (b, .inr (2, [.int fn, .long fa, .long fb]))) (x0 : Int64) (x2 : Int32) (x3 : Int32) : Met l yX2_isOpenFlat wsX2_isOpenFlat ({ frames := 2, cells := 0, slots := 0, locals := 45 }) (va_Pc [.long x0, .ref b, .int x2, .int x3] (PW D cy sz ws)) (vp_Si (fun r => r = bI (g_flat x0 fb x2 x3))) 0 0 (fun _ => False) := by
  refine Met.ofW (cc := cX2_isOpenFlat) (maxL := 5) (ret := (some .boolean)) (by decide) rfl ?_
  intro p e s m args below meth c s₁ B hml hv
  obtain ⟨rfl, rfl, hP, hK, hN, hD0⟩ := hv
  have hx := B.exec
  have hb := B.bytes
  have hr := B.returns
  have hts := atoms_spec (ws := wsX2_isOpenFlat) B.pre
  have hown : s.vm.findClass RX2 = some m.cls := findClass_of_methodNamed B.named
  have hlocks := B.notSynchronized
  have hw0 := hts (.fieldLink RX2 64 "ParquetLayer$Laying" "across" "J") (by decide +kernel)
  have hi3 := ihX2_isOpenFlat_3
  have hD := hD0
  have hl := lv_entry ([.long x0, .ref b, .int x2, .int x3]) (n := 5) (Nat.le_of_ble_eq_true rfl)
  rw [lg_entry_eq]
  generalize (lg_sl ([.long x0, .ref b, .int x2, .int x3]) ++ List.replicate (5 - (lg_sl ([.long x0, .ref b, .int x2, .int x3])).length) Slot.unset).toArray = ls at hl ⊢
  have hl : lv_has ls 5 [(0, .long x0), (2, .ref b), (3, .int x2), (4, .int x3)] := hl
  refine lv_lload_n hx hb dX2_isOpenFlat_0 rfl (lv_at hl 0 rfl) ?_
  refine lv_iload_n hx hb dX2_isOpenFlat_1 rfl (lv_at hl 2 rfl) ?_
  refine lv_iload hx hb dX2_isOpenFlat_2 (lv_at hl 3 rfl) ?_
  refine kS_i (As := [.long x0, .int x2, .int x3]) (rest := []) ⟨hx, hb, hml, hown, hts⟩ (c_X1_holdsAt l x0 x2 x3) (va_cwS 3 hts gX2_isOpenFlat_X1_holdsAt rfl rfl rfl (by decide +kernel) ⟨Nat.le_of_ble_eq_true rfl, Nat.le_of_ble_eq_true rfl⟩) rfl hl.1 rfl (Nat.le_of_ble_eq_true rfl) dX2_isOpenFlat_4 ⟨Nat.le_of_ble_eq_true rfl, Nat.le_of_ble_eq_true rfl⟩ ?_
  refine lv_if_ne (tgt := 22) hx hb dX2_isOpenFlat_7 (by decide) (fun c_1 => ?_) (fun c_1 => ?_)
  · replace c_1 := bI_t c_1
    refine lv_aload_n hx hb dX2_isOpenFlat_22 rfl (lv_at hl 1 rfl) ?_
    refine va_get (D := D) (ci := 2) (v := .long fb) (C := RX3) (T := TX3) (N := 3) hx hb hts hi3 hown hK hP k0 he0 rfl 2 (by decide) hw0 (fun _ h9 => h9) rfl dX2_isOpenFlat_23 ?_
    refine lv_iload_n hx hb dX2_isOpenFlat_26 rfl (lv_at hl 2 rfl) ?_
    refine lv_iload hx hb dX2_isOpenFlat_27 (lv_at hl 3 rfl) ?_
    refine lv_iconst (v := 1) hx hb dX2_isOpenFlat_29 (by decide) ?_
    refine lv_isub hx hb dX2_isOpenFlat_30 ?_
    refine kS_i (As := [.long fb, .int x2, .int (x3 - 1)]) (rest := []) ⟨hx, hb, hml, hown, hts⟩ (c_X1_holdsAt l fb x2 (x3 - 1)) (va_cwS 3 hts gX2_isOpenFlat_X1_holdsAt rfl rfl rfl (by decide +kernel) ⟨Nat.le_of_ble_eq_true rfl, Nat.le_of_ble_eq_true rfl⟩) rfl hl.1 rfl (Nat.le_of_ble_eq_true rfl) dX2_isOpenFlat_31 ⟨Nat.le_of_ble_eq_true rfl, Nat.le_of_ble_eq_true rfl⟩ ?_
    refine lv_if_ne (tgt := 41) hx hb dX2_isOpenFlat_34 (by decide) (fun c_2 => ?_) (fun c_2 => ?_)
    · replace c_2 := bI_t c_2
      refine lv_iconst (v := 0) hx hb dX2_isOpenFlat_41 (by decide) ?_
      exact pret_z hx hb hr hlocks (gfl_1 c_1 c_2) dX2_isOpenFlat_42
    · replace c_2 := bI_f c_2
      refine lv_iconst (v := 1) hx hb dX2_isOpenFlat_37 (by decide) ?_
      refine lv_goto (tgt := 42) hx hb dX2_isOpenFlat_38 (by decide) ?_
      exact pret_z hx hb hr hlocks (gfl_2 c_1 c_2) dX2_isOpenFlat_42
  · replace c_1 := bI_f c_1
    refine lv_lload_n hx hb dX2_isOpenFlat_10 rfl (lv_at hl 0 rfl) ?_
    refine lv_iload_n hx hb dX2_isOpenFlat_11 rfl (lv_at hl 2 rfl) ?_
    refine lv_iload hx hb dX2_isOpenFlat_12 (lv_at hl 3 rfl) ?_
    refine lv_iconst (v := 1) hx hb dX2_isOpenFlat_14 (by decide) ?_
    refine lv_isub hx hb dX2_isOpenFlat_15 ?_
    refine kS_i (As := [.long x0, .int x2, .int (x3 - 1)]) (rest := []) ⟨hx, hb, hml, hown, hts⟩ (c_X1_holdsAt l x0 x2 (x3 - 1)) (va_cwS 3 hts gX2_isOpenFlat_X1_holdsAt rfl rfl rfl (by decide +kernel) ⟨Nat.le_of_ble_eq_true rfl, Nat.le_of_ble_eq_true rfl⟩) rfl hl.1 rfl (Nat.le_of_ble_eq_true rfl) dX2_isOpenFlat_16 ⟨Nat.le_of_ble_eq_true rfl, Nat.le_of_ble_eq_true rfl⟩ ?_
    refine lv_if_eq (tgt := 41) hx hb dX2_isOpenFlat_19 (by decide) (fun c_3 => ?_) (fun c_3 => ?_)
    · replace c_3 := bI_f c_3
      refine lv_iconst (v := 0) hx hb dX2_isOpenFlat_41 (by decide) ?_
      exact pret_z hx hb hr hlocks (gfl_3 c_1 c_3) dX2_isOpenFlat_42
    · replace c_3 := bI_t c_3
      refine lv_aload_n hx hb dX2_isOpenFlat_22 rfl (lv_at hl 1 rfl) ?_
      refine va_get (D := D) (ci := 2) (v := .long fb) (C := RX3) (T := TX3) (N := 3) hx hb hts hi3 hown hK hP k0 he0 rfl 2 (by decide) hw0 (fun _ h9 => h9) rfl dX2_isOpenFlat_23 ?_
      refine lv_iload_n hx hb dX2_isOpenFlat_26 rfl (lv_at hl 2 rfl) ?_
      refine lv_iload hx hb dX2_isOpenFlat_27 (lv_at hl 3 rfl) ?_
      refine lv_iconst (v := 1) hx hb dX2_isOpenFlat_29 (by decide) ?_
      refine lv_isub hx hb dX2_isOpenFlat_30 ?_
      refine kS_i (As := [.long fb, .int x2, .int (x3 - 1)]) (rest := []) ⟨hx, hb, hml, hown, hts⟩ (c_X1_holdsAt l fb x2 (x3 - 1)) (va_cwS 3 hts gX2_isOpenFlat_X1_holdsAt rfl rfl rfl (by decide +kernel) ⟨Nat.le_of_ble_eq_true rfl, Nat.le_of_ble_eq_true rfl⟩) rfl hl.1 rfl (Nat.le_of_ble_eq_true rfl) dX2_isOpenFlat_31 ⟨Nat.le_of_ble_eq_true rfl, Nat.le_of_ble_eq_true rfl⟩ ?_
      refine lv_if_ne (tgt := 41) hx hb dX2_isOpenFlat_34 (by decide) (fun c_4 => ?_) (fun c_4 => ?_)
      · replace c_4 := bI_t c_4
        refine lv_iconst (v := 0) hx hb dX2_isOpenFlat_41 (by decide) ?_
        exact pret_z hx hb hr hlocks (gfl_4 c_3 c_4) dX2_isOpenFlat_42
      · replace c_4 := bI_f c_4
        refine lv_iconst (v := 1) hx hb dX2_isOpenFlat_37 (by decide) ?_
        refine lv_goto (tgt := 42) hx hb dX2_isOpenFlat_38 (by decide) ?_
        exact pret_z hx hb hr hlocks (gfl_5 c_3 c_4) dX2_isOpenFlat_42
set_option maxHeartbeats 4000000 in
set_option maxRecDepth 100000 in
theorem x_X2_isOpenSteep (l : Launch) (D : va_G) (cy : Nat → ClassId) (sz : Nat) (ws : va_W) (k0 b : Nat) (fn : Int32) (fa fb : Int64) (he0 : ws[k0]? = some (b, .inr (2, [.int fn, .long fa, .long fb]))) (x0 : Int64) (x2 : Int32) (x3 : Int32) : Met l yX2_isOpenSteep wsX2_isOpenSteep ({ frames := 2, cells := 0, slots := 0, locals := 45 }) (va_Pc [.long x0, .ref b, .int x2, .int x3] (PW D cy sz ws)) (vp_Si (fun r => r = bI (g_steep x0 fa x2 x3))) 0 0 (fun _ => False) := by
  refine Met.ofW (cc := cX2_isOpenSteep) (maxL := 5) (ret := (some .boolean)) (by decide) rfl ?_
  intro p e s m args below meth c s₁ B hml hv
  obtain ⟨rfl, rfl, hP, hK, hN, hD0⟩ := hv
  have hx := B.exec
  have hb := B.bytes
  have hr := B.returns
  have hts := atoms_spec (ws := wsX2_isOpenSteep) B.pre
  have hown : s.vm.findClass RX2 = some m.cls := findClass_of_methodNamed B.named
  have hlocks := B.notSynchronized
  have hw0 := hts (.fieldLink RX2 70 "ParquetLayer$Laying" "along" "J") (by decide +kernel)
  have hi3 := ihX2_isOpenSteep_3
  have hD := hD0
  have hl := lv_entry ([.long x0, .ref b, .int x2, .int x3]) (n := 5) (Nat.le_of_ble_eq_true rfl)
  rw [lg_entry_eq]
  generalize (lg_sl ([.long x0, .ref b, .int x2, .int x3]) ++ List.replicate (5 - (lg_sl ([.long x0, .ref b, .int x2, .int x3])).length) Slot.unset).toArray = ls at hl ⊢
  have hl : lv_has ls 5 [(0, .long x0), (2, .ref b), (3, .int x2), (4, .int x3)] := hl
  refine lv_lload_n hx hb dX2_isOpenSteep_0 rfl (lv_at hl 0 rfl) ?_
  refine lv_iload_n hx hb dX2_isOpenSteep_1 rfl (lv_at hl 2 rfl) ?_
  refine lv_iload hx hb dX2_isOpenSteep_2 (lv_at hl 3 rfl) ?_
  refine kS_i (As := [.long x0, .int x2, .int x3]) (rest := []) ⟨hx, hb, hml, hown, hts⟩ (c_X1_holdsAt l x0 x2 x3) (va_cwS 3 hts gX2_isOpenSteep_X1_holdsAt rfl rfl rfl (by decide +kernel) ⟨Nat.le_of_ble_eq_true rfl, Nat.le_of_ble_eq_true rfl⟩) rfl hl.1 rfl (Nat.le_of_ble_eq_true rfl) dX2_isOpenSteep_4 ⟨Nat.le_of_ble_eq_true rfl, Nat.le_of_ble_eq_true rfl⟩ ?_
  refine lv_if_ne (tgt := 22) hx hb dX2_isOpenSteep_7 (by decide) (fun c_1 => ?_) (fun c_1 => ?_)
  · replace c_1 := bI_t c_1
    refine lv_aload_n hx hb dX2_isOpenSteep_22 rfl (lv_at hl 1 rfl) ?_
    refine va_get (D := D) (ci := 2) (v := .long fa) (C := RX3) (T := TX3) (N := 3) hx hb hts hi3 hown hK hP k0 he0 rfl 1 (by decide) hw0 (fun _ h9 => h9) rfl dX2_isOpenSteep_23 ?_
    refine lv_iload_n hx hb dX2_isOpenSteep_26 rfl (lv_at hl 2 rfl) ?_
    refine lv_iconst (v := 1) hx hb dX2_isOpenSteep_27 (by decide) ?_
    refine lv_isub hx hb dX2_isOpenSteep_28 ?_
    refine lv_iload hx hb dX2_isOpenSteep_29 (lv_at hl 3 rfl) ?_
    refine kS_i (As := [.long fa, .int (x2 - 1), .int x3]) (rest := []) ⟨hx, hb, hml, hown, hts⟩ (c_X1_holdsAt l fa (x2 - 1) x3) (va_cwS 3 hts gX2_isOpenSteep_X1_holdsAt rfl rfl rfl (by decide +kernel) ⟨Nat.le_of_ble_eq_true rfl, Nat.le_of_ble_eq_true rfl⟩) rfl hl.1 rfl (Nat.le_of_ble_eq_true rfl) dX2_isOpenSteep_31 ⟨Nat.le_of_ble_eq_true rfl, Nat.le_of_ble_eq_true rfl⟩ ?_
    refine lv_if_ne (tgt := 41) hx hb dX2_isOpenSteep_34 (by decide) (fun c_2 => ?_) (fun c_2 => ?_)
    · replace c_2 := bI_t c_2
      refine lv_iconst (v := 0) hx hb dX2_isOpenSteep_41 (by decide) ?_
      exact pret_z hx hb hr hlocks (gst_1 c_1 c_2) dX2_isOpenSteep_42
    · replace c_2 := bI_f c_2
      refine lv_iconst (v := 1) hx hb dX2_isOpenSteep_37 (by decide) ?_
      refine lv_goto (tgt := 42) hx hb dX2_isOpenSteep_38 (by decide) ?_
      exact pret_z hx hb hr hlocks (gst_2 c_1 c_2) dX2_isOpenSteep_42
  · replace c_1 := bI_f c_1
    refine lv_lload_n hx hb dX2_isOpenSteep_10 rfl (lv_at hl 0 rfl) ?_
    refine lv_iload_n hx hb dX2_isOpenSteep_11 rfl (lv_at hl 2 rfl) ?_
    refine lv_iconst (v := 1) hx hb dX2_isOpenSteep_12 (by decide) ?_
    refine lv_isub hx hb dX2_isOpenSteep_13 ?_
    refine lv_iload hx hb dX2_isOpenSteep_14 (lv_at hl 3 rfl) ?_
    refine kS_i (As := [.long x0, .int (x2 - 1), .int x3]) (rest := []) ⟨hx, hb, hml, hown, hts⟩ (c_X1_holdsAt l x0 (x2 - 1) x3) (va_cwS 3 hts gX2_isOpenSteep_X1_holdsAt rfl rfl rfl (by decide +kernel) ⟨Nat.le_of_ble_eq_true rfl, Nat.le_of_ble_eq_true rfl⟩) rfl hl.1 rfl (Nat.le_of_ble_eq_true rfl) dX2_isOpenSteep_16 ⟨Nat.le_of_ble_eq_true rfl, Nat.le_of_ble_eq_true rfl⟩ ?_
    refine lv_if_eq (tgt := 41) hx hb dX2_isOpenSteep_19 (by decide) (fun c_3 => ?_) (fun c_3 => ?_)
    · replace c_3 := bI_f c_3
      refine lv_iconst (v := 0) hx hb dX2_isOpenSteep_41 (by decide) ?_
      exact pret_z hx hb hr hlocks (gst_3 c_1 c_3) dX2_isOpenSteep_42
    · replace c_3 := bI_t c_3
      refine lv_aload_n hx hb dX2_isOpenSteep_22 rfl (lv_at hl 1 rfl) ?_
      refine va_get (D := D) (ci := 2) (v := .long fa) (C := RX3) (T := TX3) (N := 3) hx hb hts hi3 hown hK hP k0 he0 rfl 1 (by decide) hw0 (fun _ h9 => h9) rfl dX2_isOpenSteep_23 ?_
      refine lv_iload_n hx hb dX2_isOpenSteep_26 rfl (lv_at hl 2 rfl) ?_
      refine lv_iconst (v := 1) hx hb dX2_isOpenSteep_27 (by decide) ?_
      refine lv_isub hx hb dX2_isOpenSteep_28 ?_
      refine lv_iload hx hb dX2_isOpenSteep_29 (lv_at hl 3 rfl) ?_
      refine kS_i (As := [.long fa, .int (x2 - 1), .int x3]) (rest := []) ⟨hx, hb, hml, hown, hts⟩ (c_X1_holdsAt l fa (x2 - 1) x3) (va_cwS 3 hts gX2_isOpenSteep_X1_holdsAt rfl rfl rfl (by decide +kernel) ⟨Nat.le_of_ble_eq_true rfl, Nat.le_of_ble_eq_true rfl⟩) rfl hl.1 rfl (Nat.le_of_ble_eq_true rfl) dX2_isOpenSteep_31 ⟨Nat.le_of_ble_eq_true rfl, Nat.le_of_ble_eq_true rfl⟩ ?_
      refine lv_if_ne (tgt := 41) hx hb dX2_isOpenSteep_34 (by decide) (fun c_4 => ?_) (fun c_4 => ?_)
      · replace c_4 := bI_t c_4
        refine lv_iconst (v := 0) hx hb dX2_isOpenSteep_41 (by decide) ?_
        exact pret_z hx hb hr hlocks (gst_4 c_3 c_4) dX2_isOpenSteep_42
      · replace c_4 := bI_f c_4
        refine lv_iconst (v := 1) hx hb dX2_isOpenSteep_37 (by decide) ?_
        refine lv_goto (tgt := 42) hx hb dX2_isOpenSteep_38 (by decide) ?_
        exact pret_z hx hb hr hlocks (gst_5 c_3 c_4) dX2_isOpenSteep_42
set_option maxHeartbeats 4000000 in
set_option maxRecDepth 100000 in
theorem x_X2_firstPoint (l : Launch) (x0 : Int64) (f0 : Nat) (hf0 : isF0 x0 f0) : Met l yX2_firstPoint wsX2_firstPoint ({ frames := 1, cells := 0, slots := 0, locals := 22 }) (va_Pc [.long x0] (fun _ => True)) (vp_Si (fun r => r = nI (hTL f0))) 0 0 (fun _ => False) := by
  refine Met.ofW (cc := cX2_firstPoint) (maxL := 3) (ret := (some .int)) (by decide) rfl ?_
  intro p e s m args below meth c s₁ B hml hv
  obtain ⟨rfl, -⟩ := hv
  have hx := B.exec
  have hb := B.bytes
  have hr := B.returns
  have hts := atoms_spec (ws := wsX2_firstPoint) B.pre
  have hown : s.vm.findClass RX2 = some m.cls := findClass_of_methodNamed B.named
  have hlocks := B.notSynchronized
  have hl := lv_entry ([.long x0]) (n := 3) (Nat.le_of_ble_eq_true rfl)
  rw [lg_entry_eq]
  generalize (lg_sl ([.long x0]) ++ List.replicate (3 - (lg_sl ([.long x0])).length) Slot.unset).toArray = ls at hl ⊢
  have hl : lv_has ls 3 [(0, .long x0)] := hl
  have lp : ∀ (n2 : Nat), ∀ (i : Nat), (i ≤ 63) → (i ≤ f0) → (63 - i) < n2 → ∀ (ls : Array Slot), lv_has ls 3 [(0, .long x0), (2, .int (nI i))] → W p l e (headSpec wsX2_firstPoint ({ frames := 1, cells := 0, slots := 0, locals := 22 })).room s m ([.long x0] : List Value).toArray below meth c s.heap [] 0 0 (MQ below (vp_Si (fun r => r = nI (hTL f0))) ([.long x0] : List Value).toArray s 0 0 (fun _ => False)) (F0 m 2 ls []) := by
    intro n2
    induction n2 with
    | zero => intro i hi hif hn; exact absurd hn (Nat.not_lt_zero _)
    | succ n2 ih2 =>
      intro i hi hif hn2 ls hl
      refine lv_iload_n hx hb dX2_firstPoint_2 rfl (lv_at hl 1 rfl) ?_
      refine lv_bipush (v := 63) hx hb dX2_firstPoint_3 (by decide) ?_
      refine lv_icmp_ge (tgt := 22) hx hb dX2_firstPoint_5 (by decide) (fun c_1 => ?_) (fun c_1 => ?_)
      · have hie := ctr_ge (N := 63) (by decide) hi c_1
        refine lv_iload_n hx hb dX2_firstPoint_22 rfl (lv_at hl 1 rfl) ?_
        refine lv_bipush (v := 8) hx hb dX2_firstPoint_23 (by decide) ?_
        refine lv_irem hx hb dX2_firstPoint_25 (by decide) ?_
        refine lv_iload_n hx hb dX2_firstPoint_26 rfl (lv_at hl 1 rfl) ?_
        refine lv_bipush (v := 8) hx hb dX2_firstPoint_27 (by decide) ?_
        refine lv_idiv hx hb dX2_firstPoint_29 (by decide) ?_
        refine kS_i (As := [.int ((nI i) - (nI i) / 8 * 8), .int ((nI i) / 8)]) (rest := []) ⟨hx, hb, hml, hown, hts⟩ (c_X2_pointOf l ((nI i) - (nI i) / 8 * 8) ((nI i) / 8)) (va_cwS 2 hts gX2_firstPoint_X2_pointOf rfl rfl rfl (by decide +kernel) ⟨Nat.le_of_ble_eq_true rfl, Nat.le_of_ble_eq_true rfl⟩) rfl hl.1 rfl (Nat.le_of_ble_eq_true rfl) dX2_firstPoint_30 ⟨Nat.le_of_ble_eq_true rfl, Nat.le_of_ble_eq_true rfl⟩ ?_
        exact aret_i hx hb hr hlocks (fpc_e hf0 hif (Or.inl hie)) dX2_firstPoint_33
      · have hlt := ctr_lt (N := 63) (by decide) hi c_1
        refine lv_lload_n hx hb dX2_firstPoint_8 rfl (lv_at hl 0 rfl) ?_
        refine lv_iload_n hx hb dX2_firstPoint_9 rfl (lv_at hl 1 rfl) ?_
        refine kS_i (As := [.long x0, .int (nI i)]) (rest := []) ⟨hx, hb, hml, hown, hts⟩ (c_X1_holds l x0 (nI i)) (va_cwS 2 hts gX2_firstPoint_X1_holds rfl rfl rfl (by decide +kernel) ⟨Nat.le_of_ble_eq_true rfl, Nat.le_of_ble_eq_true rfl⟩) rfl hl.1 rfl (Nat.le_of_ble_eq_true rfl) dX2_firstPoint_10 ⟨Nat.le_of_ble_eq_true rfl, Nat.le_of_ble_eq_true rfl⟩ ?_
        refine lv_if_ne (tgt := 22) hx hb dX2_firstPoint_13 (by decide) (fun c_2 => ?_) (fun c_2 => ?_)
        · replace c_2 := bI_t c_2
          refine lv_iload_n hx hb dX2_firstPoint_22 rfl (lv_at hl 1 rfl) ?_
          refine lv_bipush (v := 8) hx hb dX2_firstPoint_23 (by decide) ?_
          refine lv_irem hx hb dX2_firstPoint_25 (by decide) ?_
          refine lv_iload_n hx hb dX2_firstPoint_26 rfl (lv_at hl 1 rfl) ?_
          refine lv_bipush (v := 8) hx hb dX2_firstPoint_27 (by decide) ?_
          refine lv_idiv hx hb dX2_firstPoint_29 (by decide) ?_
          refine kS_i (As := [.int ((nI i) - (nI i) / 8 * 8), .int ((nI i) / 8)]) (rest := []) ⟨hx, hb, hml, hown, hts⟩ (c_X2_pointOf l ((nI i) - (nI i) / 8 * 8) ((nI i) / 8)) (va_cwS 2 hts gX2_firstPoint_X2_pointOf rfl rfl rfl (by decide +kernel) ⟨Nat.le_of_ble_eq_true rfl, Nat.le_of_ble_eq_true rfl⟩) rfl hl.1 rfl (Nat.le_of_ble_eq_true rfl) dX2_firstPoint_30 ⟨Nat.le_of_ble_eq_true rfl, Nat.le_of_ble_eq_true rfl⟩ ?_
          exact aret_i hx hb hr hlocks (fpc_e hf0 hif (Or.inr c_2)) dX2_firstPoint_33
        · replace c_2 := bI_f c_2
          refine lv_iinc (v := nI (i + 1)) (lv' := [(2, .int (nI (i + 1))), (0, .long x0)]) hx hb dX2_firstPoint_16 hl (k := 1) rfl (nI_1 _) (by decide) rfl (fun ls hl => ?_)
          refine lv_goto (tgt := 2) hx hb dX2_firstPoint_19 (by decide) ?_
          exact ih2 (i + 1) (by omega) (fpc_s hf0 hif hlt c_2) (by omega) ls (lv_sub hl [1, 0] rfl)
  refine lv_iconst (v := 0) hx hb dX2_firstPoint_0 (by decide) ?_
  refine lv_istore_n (lv' := [(2, .int 0), (0, .long x0)]) hx hb dX2_firstPoint_1 rfl hl (by decide) rfl (fun ls hl => ?_)
  exact lp _ 0 (by omega) (Nat.zero_le _) (Nat.lt_succ_self _) ls (lv_sub hl [1, 0] rfl)
