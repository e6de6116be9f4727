theorem dX10_kindOf_0 : decode cX10_kindOf 0 = .ok (.aload_n 0, 1) := by decide +kernel
theorem dX10_kindOf_1 : decode cX10_kindOf 1 = .ok (.getfield 9, 3) := by decide +kernel
theorem dX10_kindOf_4 : decode cX10_kindOf 4 = .ok (.iload_n 1, 1) := by decide +kernel
theorem dX10_kindOf_5 : decode cX10_kindOf 5 = .ok (.iaload, 1) := by decide +kernel
theorem dX10_kindOf_6 : decode cX10_kindOf 6 = .ok (.iconst 3, 1) := by decide +kernel
theorem dX10_kindOf_7 : decode cX10_kindOf 7 = .ok (.iand, 1) := by decide +kernel
theorem dX10_kindOf_8 : decode cX10_kindOf 8 = .ok (.ireturn, 1) := by decide +kernel
set_option maxRecDepth 20000 in
theorem ihX10_kindOf_10 : ∀ w ∈ u_ws RX10 TX10 30, w ∈ wsX10_kindOf := fun _ h => List.mem_cons_of_mem _ (List.mem_append_right _ h)
set_option maxHeartbeats 4000000 in
set_option maxRecDepth 100000 in
theorem c_X10_kindOf (l : Launch) (D : va_G) (cy : Nat → ClassId) (a : Nat → Nat) (sz : Nat) (J : Nat → Int64) (I : Nat → Int32) (R : Nat → Nat → Int32) (RJ : Nat → Nat → Int64) (x0 : Int32) (hx0 : vp_in x0 20) : Met l yX10_kindOf wsX10_kindOf ({ frames := 0, cells := 0, slots := 0, locals := 0 }) (va_Pc [.ref (a 0), .int x0] (PW D cy sz (MW cy a J I R RJ))) (vp_Si (fun r => r = ((R 1) x0.toNatClampNeg) &&& 3)) 0 0 (fun _ => False) := by
  refine Met.ofW (cc := cX10_kindOf) (maxL := 2) (ret := (some .int)) (by decide) rfl ?_
  intro p e s m args below meth c s₁ B hml hv
  obtain ⟨rfl, rfl, hP, hK, hN, hD0⟩ := hv
  have hx := B.exec
  have hb := B.bytes
  have hr := B.returns
  have hts := atoms_spec (ws := wsX10_kindOf) B.pre
  have hown : s.vm.findClass RX10 = some m.cls := findClass_of_methodNamed B.named
  have hlocks := B.notSynchronized
  have hw0 := hts (.fieldLink RX10 9 "ParquetLayerModel" "stone" "[I") (by decide +kernel)
  have hi10 := ihX10_kindOf_10
  have hD := hD0
  have hl := lv_entry ([.ref (a 0), .int x0]) (n := 2) (Nat.le_of_ble_eq_true rfl)
  rw [lg_entry_eq]
  generalize (lg_sl ([.ref (a 0), .int x0]) ++ List.replicate (2 - (lg_sl ([.ref (a 0), .int x0])).length) Slot.unset).toArray = ls at hl ⊢
  have hl : lv_has ls 2 [(0, .ref (a 0)), (1, .int x0)] := hl
  refine lv_aload_n hx hb dX10_kindOf_0 rfl (lv_at hl 0 rfl) ?_
  refine va_get (D := D) (ci := 9) (v := .ref (a 1)) (C := RX10) (T := TX10) (N := 30) hx hb hts hi10 hown hK hP 0 rfl rfl 2 (by decide) hw0 (fun _ h9 => h9) rfl dX10_kindOf_1 ?_
  refine lv_iload_n hx hb dX10_kindOf_4 rfl (lv_at hl 1 rfl) ?_
  refine va_iald hx hb hK hP 1 0 rfl rfl hx0 dX10_kindOf_5 ?_
  refine lv_iconst (v := 3) hx hb dX10_kindOf_6 (by decide) ?_
  refine lv_iand hx hb dX10_kindOf_7 ?_
  exact pret_i hx hb hr hlocks rfl dX10_kindOf_8
theorem dX10_fieldOf_0 : decode cX10_fieldOf 0 = .ok (.aload_n 0, 1) := by decide +kernel
theorem dX10_fieldOf_1 : decode cX10_fieldOf 1 = .ok (.getfield 9, 3) := by decide +kernel
theorem dX10_fieldOf_4 : decode cX10_fieldOf 4 = .ok (.iload_n 1, 1) := by decide +kernel
theorem dX10_fieldOf_5 : decode cX10_fieldOf 5 = .ok (.iaload, 1) := by decide +kernel
theorem dX10_fieldOf_6 : decode cX10_fieldOf 6 = .ok (.iconst 2, 1) := by decide +kernel
theorem dX10_fieldOf_7 : decode cX10_fieldOf 7 = .ok (.ishr, 1) := by decide +kernel
theorem dX10_fieldOf_8 : decode cX10_fieldOf 8 = .ok (.bipush 63, 2) := by decide +kernel
theorem dX10_fieldOf_10 : decode cX10_fieldOf 10 = .ok (.iand, 1) := by decide +kernel
theorem dX10_fieldOf_11 : decode cX10_fieldOf 11 = .ok (.ireturn, 1) := by decide +kernel
set_option maxRecDepth 20000 in
theorem ihX10_fieldOf_10 : ∀ w ∈ u_ws RX10 TX10 30, w ∈ wsX10_fieldOf := fun _ h => List.mem_cons_of_mem _ (List.mem_append_right _ h)
set_option maxHeartbeats 4000000 in
set_option maxRecDepth 100000 in
theorem c_X10_fieldOf (l : Launch) (D : va_G) (cy : Nat → ClassId) (a : Nat → Nat) (sz : Nat) (J : Nat → Int64) (I : Nat → Int32) (R : Nat → Nat → Int32) (RJ : Nat → Nat → Int64) (x0 : Int32) (hx0 : vp_in x0 20) : Met l yX10_fieldOf wsX10_fieldOf ({ frames := 0, cells := 0, slots := 0, locals := 0 }) (va_Pc [.ref (a 0), .int x0] (PW D cy sz (MW cy a J I R RJ))) (vp_Si (fun r => r = (((R 1) x0.toNatClampNeg) >>> ((2 : Int32) &&& 31)) &&& 63)) 0 0 (fun _ => False) := by
  refine Met.ofW (cc := cX10_fieldOf) (maxL := 2) (ret := (some .int)) (by decide) rfl ?_
  intro p e s m args below meth c s₁ B hml hv
  obtain ⟨rfl, rfl, hP, hK, hN, hD0⟩ := hv
  have hx := B.exec
  have hb := B.bytes
  have hr := B.returns
  have hts := atoms_spec (ws := wsX10_fieldOf) B.pre
  have hown : s.vm.findClass RX10 = some m.cls := findClass_of_methodNamed B.named
  have hlocks := B.notSynchronized
  have hw0 := hts (.fieldLink RX10 9 "ParquetLayerModel" "stone" "[I") (by decide +kernel)
  have hi10 := ihX10_fieldOf_10
  have hD := hD0
  have hl := lv_entry ([.ref (a 0), .int x0]) (n := 2) (Nat.le_of_ble_eq_true rfl)
  rw [lg_entry_eq]
  generalize (lg_sl ([.ref (a 0), .int x0]) ++ List.replicate (2 - (lg_sl ([.ref (a 0), .int x0])).length) Slot.unset).toArray = ls at hl ⊢
  have hl : lv_has ls 2 [(0, .ref (a 0)), (1, .int x0)] := hl
  refine lv_aload_n hx hb dX10_fieldOf_0 rfl (lv_at hl 0 rfl) ?_
  refine va_get (D := D) (ci := 9) (v := .ref (a 1)) (C := RX10) (T := TX10) (N := 30) hx hb hts hi10 hown hK hP 0 rfl rfl 2 (by decide) hw0 (fun _ h9 => h9) rfl dX10_fieldOf_1 ?_
  refine lv_iload_n hx hb dX10_fieldOf_4 rfl (lv_at hl 1 rfl) ?_
  refine va_iald hx hb hK hP 1 0 rfl rfl hx0 dX10_fieldOf_5 ?_
  refine lv_iconst (v := 2) hx hb dX10_fieldOf_6 (by decide) ?_
  refine lv_ishr hx hb dX10_fieldOf_7 ?_
  refine lv_bipush (v := 63) hx hb dX10_fieldOf_8 (by decide) ?_
  refine lv_iand hx hb dX10_fieldOf_10 ?_
  exact pret_i hx hb hr hlocks rfl dX10_fieldOf_11
theorem dX10_isAcross_0 : decode cX10_isAcross 0 = .ok (.aload_n 0, 1) := by decide +kernel
theorem dX10_isAcross_1 : decode cX10_isAcross 1 = .ok (.getfield 9, 3) := by decide +kernel
theorem dX10_isAcross_4 : decode cX10_isAcross 4 = .ok (.iload_n 1, 1) := by decide +kernel
theorem dX10_isAcross_5 : decode cX10_isAcross 5 = .ok (.iaload, 1) := by decide +kernel
theorem dX10_isAcross_6 : decode cX10_isAcross 6 = .ok (.bipush 8, 2) := by decide +kernel
theorem dX10_isAcross_8 : decode cX10_isAcross 8 = .ok (.ishr, 1) := by decide +kernel
theorem dX10_isAcross_9 : decode cX10_isAcross 9 = .ok (.iconst 1, 1) := by decide +kernel
theorem dX10_isAcross_10 : decode cX10_isAcross 10 = .ok (.iand, 1) := by decide +kernel
theorem dX10_isAcross_11 : decode cX10_isAcross 11 = .ok (.iconst 1, 1) := by decide +kernel
theorem dX10_isAcross_12 : decode cX10_isAcross 12 = .ok (.if_icmp .ne 7, 3) := by decide +kernel
theorem dX10_isAcross_19 : decode cX10_isAcross 19 = .ok (.iconst 0, 1) := by decide +kernel
theorem dX10_isAcross_20 : decode cX10_isAcross 20 = .ok (.ireturn, 1) := by decide +kernel
theorem dX10_isAcross_15 : decode cX10_isAcross 15 = .ok (.iconst 1, 1) := by decide +kernel
theorem dX10_isAcross_16 : decode cX10_isAcross 16 = .ok (.goto 4, 3) := by decide +kernel
set_option maxRecDepth 20000 in
theorem ihX10_isAcross_10 : ∀ w ∈ u_ws RX10 TX10 30, w ∈ wsX10_isAcross := fun _ h => List.mem_cons_of_mem _ (List.mem_append_right _ h)
set_option maxHeartbeats 4000000 in
set_option maxRecDepth 100000 in
theorem c_X10_isAcross (l : Launch) (D : va_G) (cy : Nat → ClassId) (a : Nat → Nat) (sz : Nat) (J : Nat → Int64) (I : Nat → Int32) (R : Nat → Nat → Int32) (RJ : Nat → Nat → Int64) (x0 : Int32) (hx0 : vp_in x0 20) : Met l yX10_isAcross wsX10_isAcross ({ frames := 0, cells := 0, slots := 0, locals := 0 }) (va_Pc [.ref (a 0), .int x0] (PW D cy sz (MW cy a J I R RJ))) (vp_Si (fun r => r = bI (m_acr ((R 1) x0.toNatClampNeg)))) 0 0 (fun _ => False) := by
  refine Met.ofW (cc := cX10_isAcross) (maxL := 2) (ret := (some .boolean)) (by decide) rfl ?_
  intro p e s m args below meth c s₁ B hml hv
  obtain ⟨rfl, rfl, hP, hK, hN, hD0⟩ := hv
  have hx := B.exec
  have hb := B.bytes
  have hr := B.returns
  have hts := atoms_spec (ws := wsX10_isAcross) B.pre
  have hown : s.vm.findClass RX10 = some m.cls := findClass_of_methodNamed B.named
  have hlocks := B.notSynchronized
  have hw0 := hts (.fieldLink RX10 9 "ParquetLayerModel" "stone" "[I") (by decide +kernel)
  have hi10 := ihX10_isAcross_10
  have hD := hD0
  have hl := lv_entry ([.ref (a 0), .int x0]) (n := 2) (Nat.le_of_ble_eq_true rfl)
  rw [lg_entry_eq]
  generalize (lg_sl ([.ref (a 0), .int x0]) ++ List.replicate (2 - (lg_sl ([.ref (a 0), .int x0])).length) Slot.unset).toArray = ls at hl ⊢
  have hl : lv_has ls 2 [(0, .ref (a 0)), (1, .int x0)] := hl
  refine lv_aload_n hx hb dX10_isAcross_0 rfl (lv_at hl 0 rfl) ?_
  refine va_get (D := D) (ci := 9) (v := .ref (a 1)) (C := RX10) (T := TX10) (N := 30) hx hb hts hi10 hown hK hP 0 rfl rfl 2 (by decide) hw0 (fun _ h9 => h9) rfl dX10_isAcross_1 ?_
  refine lv_iload_n hx hb dX10_isAcross_4 rfl (lv_at hl 1 rfl) ?_
  refine va_iald hx hb hK hP 1 0 rfl rfl hx0 dX10_isAcross_5 ?_
  refine lv_bipush (v := 8) hx hb dX10_isAcross_6 (by decide) ?_
  refine lv_ishr hx hb dX10_isAcross_8 ?_
  refine lv_iconst (v := 1) hx hb dX10_isAcross_9 (by decide) ?_
  refine lv_iand hx hb dX10_isAcross_10 ?_
  refine lv_iconst (v := 1) hx hb dX10_isAcross_11 (by decide) ?_
  refine lv_icmp_ne (tgt := 19) hx hb dX10_isAcross_12 (by decide) (fun c_1 => ?_) (fun c_1 => ?_)
  · refine lv_iconst (v := 0) hx hb dX10_isAcross_19 (by decide) ?_
    exact pret_z hx hb hr hlocks (by simp_all [bI, m_acr]) dX10_isAcross_20
  · refine lv_iconst (v := 1) hx hb dX10_isAcross_15 (by decide) ?_
    refine lv_goto (tgt := 20) hx hb dX10_isAcross_16 (by decide) ?_
    exact pret_z hx hb hr hlocks (by simp_all [bI, m_acr]) dX10_isAcross_20
theorem dX10_isGlued_0 : decode cX10_isGlued 0 = .ok (.aload_n 0, 1) := by decide +kernel
theorem dX10_isGlued_1 : decode cX10_isGlued 1 = .ok (.iload_n 1, 1) := by decide +kernel
set_option maxRecDepth 20000 in
theorem ggX10_isGlued_X10_kindOf : GoodIn wsX10_isGlued wsX10_kindOf := goodIn_r _ [5, 6, 7, 8, 9, 10, 11, 12, 13, 14, 15, 16, 17, 18, 19, 20, 21, 22, 23, 24, 25, 26, 27, 28, 29, 30, 31, 32, 33, 34, 35, 36] rfl (by decide +kernel)
set_option maxRecDepth 20000 in
theorem gX10_isGlued_X10_kindOf : GoodIn wsX10_isGlued (wsV RX10 103 RX10 yX10_kindOf wsX10_kindOf) := goodIn_app (goodIn_r _ [1, 2, 3, 4] rfl (by decide +kernel)) ggX10_isGlued_X10_kindOf
theorem dX10_isGlued_2 : decode cX10_isGlued 2 = .ok (.invokevirtual 103, 3) := by decide +kernel
theorem dX10_isGlued_5 : decode cX10_isGlued 5 = .ok (.iconst 1, 1) := by decide +kernel
theorem dX10_isGlued_6 : decode cX10_isGlued 6 = .ok (.if_icmp .eq 12, 3) := by decide +kernel
theorem dX10_isGlued_18 : decode cX10_isGlued 18 = .ok (.iconst 1, 1) := by decide +kernel
theorem dX10_isGlued_19 : decode cX10_isGlued 19 = .ok (.goto 4, 3) := by decide +kernel
theorem dX10_isGlued_23 : decode cX10_isGlued 23 = .ok (.ireturn, 1) := by decide +kernel
theorem dX10_isGlued_9 : decode cX10_isGlued 9 = .ok (.aload_n 0, 1) := by decide +kernel
theorem dX10_isGlued_10 : decode cX10_isGlued 10 = .ok (.iload_n 1, 1) := by decide +kernel
theorem dX10_isGlued_11 : decode cX10_isGlued 11 = .ok (.invokevirtual 103, 3) := by decide +kernel
theorem dX10_isGlued_14 : decode cX10_isGlued 14 = .ok (.iconst 2, 1) := by decide +kernel
theorem dX10_isGlued_15 : decode cX10_isGlued 15 = .ok (.if_icmp .ne 7, 3) := by decide +kernel
theorem dX10_isGlued_22 : decode cX10_isGlued 22 = .ok (.iconst 0, 1) := by decide +kernel
set_option maxHeartbeats 4000000 in
set_option maxRecDepth 100000 in
theorem c_X10_isGlued (l : Launch) (D : va_G) (cy : Nat → ClassId) (a : Nat → Nat) (sz : Nat) (J : Nat → Int64) (I : Nat → Int32) (R : Nat → Nat → Int32) (RJ : Nat → Nat → Int64) (x0 : Int32) (hx0 : vp_in x0 20) : Met l yX10_isGlued wsX10_isGlued ({ frames := 1, cells := 0, slots := 0, locals := 21 }) (va_Pc [.ref (a 0), .int x0] (PW D cy sz (MW cy a J I R RJ))) (vp_Si (fun r => r = bI (m_isG ((R 1) x0.toNatClampNeg)))) 0 0 (fun _ => False) := by
  refine Met.ofW (cc := cX10_isGlued) (maxL := 2) (ret := (some .boolean)) (by decide) rfl ?_
  intro p e s m args below meth c s₁ B hml hv
  obtain ⟨rfl, rfl, hP, hK, hN, hD0⟩ := hv
  have hx := B.exec
  have hb := B.bytes
  have hr := B.returns
  have hts := atoms_spec (ws := wsX10_isGlued) B.pre
  have hown : s.vm.findClass RX10 = some m.cls := findClass_of_methodNamed B.named
  have hlocks := B.notSynchronized
  have hD := hD0
  have hl := lv_entry ([.ref (a 0), .int x0]) (n := 2) (Nat.le_of_ble_eq_true rfl)
  rw [lg_entry_eq]
  generalize (lg_sl ([.ref (a 0), .int x0]) ++ List.replicate (2 - (lg_sl ([.ref (a 0), .int x0])).length) Slot.unset).toArray = ls at hl ⊢
  have hl : lv_has ls 2 [(0, .ref (a 0)), (1, .int x0)] := hl
  refine lv_aload_n hx hb dX10_isGlued_0 rfl (lv_at hl 0 rfl) ?_
  refine lv_iload_n hx hb dX10_isGlued_1 rfl (lv_at hl 1 rfl) ?_
  refine kR_i (As := [.int x0]) (rest := []) (q0 := 0) ⟨hx, hb, hml, hown, hts⟩ (c_X10_kindOf l D cy a _ J I R RJ x0 hx0) (cwV 1 hts gX10_isGlued_X10_kindOf rfl rfl rfl (by decide +kernel) ⟨Nat.le_of_ble_eq_true rfl, Nat.le_of_ble_eq_true rfl⟩) hK hN hP hD rfl rfl rfl hl.1 rfl (Nat.le_of_ble_eq_true rfl) dX10_isGlued_2 ⟨Nat.le_of_ble_eq_true rfl, Nat.le_of_ble_eq_true rfl⟩ ?_
  refine lv_iconst (v := 1) hx hb dX10_isGlued_5 (by decide) ?_
  refine lv_icmp_eq (tgt := 18) hx hb dX10_isGlued_6 (by decide) (fun c_1 => ?_) (fun c_1 => ?_)
  · refine lv_iconst (v := 1) hx hb dX10_isGlued_18 (by decide) ?_
    refine lv_goto (tgt := 23) hx hb dX10_isGlued_19 (by decide) ?_
    exact pret_z hx hb hr hlocks (by simp_all [bI, m_isG]) dX10_isGlued_23
  · refine lv_aload_n hx hb dX10_isGlued_9 rfl (lv_at hl 0 rfl) ?_
    refine lv_iload_n hx hb dX10_isGlued_10 rfl (lv_at hl 1 rfl) ?_
    refine kR_i (As := [.int x0]) (rest := []) (q0 := 0) ⟨hx, hb, hml, hown, hts⟩ (c_X10_kindOf l D cy a _ J I R RJ x0 hx0) (cwV 1 hts gX10_isGlued_X10_kindOf rfl rfl rfl (by decide +kernel) ⟨Nat.le_of_ble_eq_true rfl, Nat.le_of_ble_eq_true rfl⟩) hK hN hP hD rfl rfl rfl hl.1 rfl (Nat.le_of_ble_eq_true rfl) dX10_isGlued_11 ⟨Nat.le_of_ble_eq_true rfl, Nat.le_of_ble_eq_true rfl⟩ ?_
    refine lv_iconst (v := 2) hx hb dX10_isGlued_14 (by decide) ?_
    refine lv_icmp_ne (tgt := 22) hx hb dX10_isGlued_15 (by decide) (fun c_2 => ?_) (fun c_2 => ?_)
    · refine lv_iconst (v := 0) hx hb dX10_isGlued_22 (by decide) ?_
      exact pret_z hx hb hr hlocks (by simp_all [bI, m_isG]) dX10_isGlued_23
    · refine lv_iconst (v := 1) hx hb dX10_isGlued_18 (by decide) ?_
      refine lv_goto (tgt := 23) hx hb dX10_isGlued_19 (by decide) ?_
      exact pret_z hx hb hr hlocks (by simp_all [bI, m_isG]) dX10_isGlued_23
theorem dX10_isStone_0 : decode cX10_isStone 0 = .ok (.iload_n 1, 1) := by decide +kernel
theorem dX10_isStone_1 : decode cX10_isStone 1 = .ok (.iconst 0, 1) := by decide +kernel
theorem dX10_isStone_2 : decode cX10_isStone 2 = .ok (.aload_n 0, 1) := by decide +kernel
theorem dX10_isStone_3 : decode cX10_isStone 3 = .ok (.getfield 85, 3) := by decide +kernel
theorem dX10_isStone_6 : decode cX10_isStone 6 = .ok (.iconst 1, 1) := by decide +kernel
theorem dX10_isStone_7 : decode cX10_isStone 7 = .ok (.isub, 1) := by decide +kernel
set_option maxRecDepth 20000 in
theorem ggX10_isStone_X10_within : GoodIn wsX10_isStone wsX10_within := goodIn_r _ [5] rfl (by decide +kernel)
set_option maxRecDepth 20000 in
theorem gX10_isStone_X10_within : GoodIn wsX10_isStone (va_wsS RX10 70 yX10_within wsX10_within) := goodIn_app (goodIn_r _ [2, 3, 4] rfl (by decide +kernel)) ggX10_isStone_X10_within
theorem dX10_isStone_8 : decode cX10_isStone 8 = .ok (.invokestatic 70, 3) := by decide +kernel
theorem dX10_isStone_11 : decode cX10_isStone 11 = .ok (.ireturn, 1) := by decide +kernel
set_option maxRecDepth 20000 in
theorem ihX10_isStone_10 : ∀ w ∈ u_ws RX10 TX10 30, w ∈ wsX10_isStone := fun _ h => List.mem_cons_of_mem _ (List.mem_append_right _ h)
set_option maxHeartbeats 4000000 in
set_option maxRecDepth 100000 in
theorem c_X10_isStone (l : Launch) (D : va_G) (cy : Nat → ClassId) (a : Nat → Nat) (sz : Nat) (J : Nat → Int64) (I : Nat → Int32) (R : Nat → Nat → Int32) (RJ : Nat → Nat → Int64) (x0 : Int32) : Met l yX10_isStone wsX10_isStone ({ frames := 1, cells := 0, slots := 0, locals := 22 }) (va_Pc [.ref (a 0), .int x0] (PW D cy sz (MW cy a J I R RJ))) (vp_Si (fun r => r = bI (m_within x0 0 ((I 1) - 1)))) 0 0 (fun _ => False) := by
  refine Met.ofW (cc := cX10_isStone) (maxL := 2) (ret := (some .boolean)) (by decide) rfl ?_
  intro p e s m args below meth c s₁ B hml hv
  obtain ⟨rfl, rfl, hP, hK, hN, hD0⟩ := hv
  have hx := B.exec
  have hb := B.bytes
  have hr := B.returns
  have hts := atoms_spec (ws := wsX10_isStone) B.pre
  have hown : s.vm.findClass RX10 = some m.cls := findClass_of_methodNamed B.named
  have hlocks := B.notSynchronized
  have hw0 := hts (.fieldLink RX10 85 "ParquetLayerModel" "stones" "I") (by decide +kernel)
  have hi10 := ihX10_isStone_10
  have hD := hD0
  have hl := lv_entry ([.ref (a 0), .int x0]) (n := 2) (Nat.le_of_ble_eq_true rfl)
  rw [lg_entry_eq]
  generalize (lg_sl ([.ref (a 0), .int x0]) ++ List.replicate (2 - (lg_sl ([.ref (a 0), .int x0])).length) Slot.unset).toArray = ls at hl ⊢
  have hl : lv_has ls 2 [(0, .ref (a 0)), (1, .int x0)] := hl
  refine lv_iload_n hx hb dX10_isStone_0 rfl (lv_at hl 1 rfl) ?_
  refine lv_iconst (v := 0) hx hb dX10_isStone_1 (by decide) ?_
  refine lv_aload_n hx hb dX10_isStone_2 rfl (lv_at hl 0 rfl) ?_
  refine va_get (D := D) (ci := 9) (v := .int (I 1)) (C := RX10) (T := TX10) (N := 30) hx hb hts hi10 hown hK hP 0 rfl rfl 1 (by decide) hw0 (fun _ h9 => h9) rfl dX10_isStone_3 ?_
  refine lv_iconst (v := 1) hx hb dX10_isStone_6 (by decide) ?_
  refine lv_isub hx hb dX10_isStone_7 ?_
  refine kS_i (As := [.int x0, .int 0, .int ((I 1) - 1)]) (rest := []) ⟨hx, hb, hml, hown, hts⟩ (c_X10_within l x0 0 ((I 1) - 1)) (va_cwS 3 hts gX10_isStone_X10_within rfl rfl rfl (by decide +kernel) ⟨Nat.le_of_ble_eq_true rfl, Nat.le_of_ble_eq_true rfl⟩) rfl hl.1 rfl (Nat.le_of_ble_eq_true rfl) dX10_isStone_8 ⟨Nat.le_of_ble_eq_true rfl, Nat.le_of_ble_eq_true rfl⟩ ?_
  exact pret_z hx hb hr hlocks rfl dX10_isStone_11
theorem dX10_touches_0 : decode cX10_touches 0 = .ok (.iload_n 2, 1) := by decide +kernel
theorem dX10_touches_1 : decode cX10_touches 1 = .ok (.bipush 8, 2) := by decide +kernel
theorem dX10_touches_3 : decode cX10_touches 3 = .ok (.irem, 1) := by decide +kernel
theorem dX10_touches_4 : decode cX10_touches 4 = .ok (.istore_n 3, 1) := by decide +kernel
theorem dX10_touches_5 : decode cX10_touches 5 = .ok (.iload_n 2, 1) := by decide +kernel
theorem dX10_touches_6 : decode cX10_touches 6 = .ok (.bipush 8, 2) := by decide +kernel
theorem dX10_touches_8 : decode cX10_touches 8 = .ok (.idiv, 1) := by decide +kernel
theorem dX10_touches_9 : decode cX10_touches 9 = .ok (.istore 4, 2) := by decide +kernel
theorem dX10_touches_11 : decode cX10_touches 11 = .ok (.lload_n 0, 1) := by decide +kernel
theorem dX10_touches_12 : decode cX10_touches 12 = .ok (.iload_n 3, 1) := by decide +kernel
theorem dX10_touches_13 : decode cX10_touches 13 = .ok (.iconst 1, 1) := by decide +kernel
theorem dX10_touches_14 : decode cX10_touches 14 = .ok (.isub, 1) := by decide +kernel
theorem dX10_touches_15 : decode cX10_touches 15 = .ok (.iload 4, 2) := by decide +kernel
set_option maxRecDepth 20000 in
theorem ggX10_touches_X10_isOn : GoodIn wsX10_touches wsX10_isOn := goodIn_r _ [4, 5, 6, 3, 7, 8, 9, 10] rfl (by decide +kernel)
set_option maxRecDepth 20000 in
theorem gX10_touches_X10_isOn : GoodIn wsX10_touches (va_wsS RX10 108 yX10_isOn wsX10_isOn) := goodIn_app (goodIn_r _ [1, 2, 3] rfl (by decide +kernel)) ggX10_touches_X10_isOn
theorem dX10_touches_17 : decode cX10_touches 17 = .ok (.invokestatic 108, 3) := by decide +kernel
theorem dX10_touches_20 : decode cX10_touches 20 = .ok (.ifCond .eq 39, 3) := by decide +kernel
theorem dX10_touches_59 : decode cX10_touches 59 = .ok (.iconst 1, 1) := by decide +kernel
theorem dX10_touches_60 : decode cX10_touches 60 = .ok (.goto 4, 3) := by decide +kernel
theorem dX10_touches_64 : decode cX10_touches 64 = .ok (.ireturn, 1) := by decide +kernel
theorem dX10_touches_23 : decode cX10_touches 23 = .ok (.lload_n 0, 1) := by decide +kernel
theorem dX10_touches_24 : decode cX10_touches 24 = .ok (.iload_n 3, 1) := by decide +kernel
theorem dX10_touches_25 : decode cX10_touches 25 = .ok (.iconst 1, 1) := by decide +kernel
theorem dX10_touches_26 : decode cX10_touches 26 = .ok (.iadd, 1) := by decide +kernel
theorem dX10_touches_27 : decode cX10_touches 27 = .ok (.iload 4, 2) := by decide +kernel
theorem dX10_touches_29 : decode cX10_touches 29 = .ok (.invokestatic 108, 3) := by decide +kernel
theorem dX10_touches_32 : decode cX10_touches 32 = .ok (.ifCond .eq 27, 3) := by decide +kernel
theorem dX10_touches_35 : decode cX10_touches 35 = .ok (.lload_n 0, 1) := by decide +kernel
theorem dX10_touches_36 : decode cX10_touches 36 = .ok (.iload_n 3, 1) := by decide +kernel
theorem dX10_touches_37 : decode cX10_touches 37 = .ok (.iload 4, 2) := by decide +kernel
theorem dX10_touches_39 : decode cX10_touches 39 = .ok (.iconst 1, 1) := by decide +kernel
theorem dX10_touches_40 : decode cX10_touches 40 = .ok (.isub, 1) := by decide +kernel
theorem dX10_touches_41 : decode cX10_touches 41 = .ok (.invokestatic 108, 3) := by decide +kernel
theorem dX10_touches_44 : decode cX10_touches 44 = .ok (.ifCond .eq 15, 3) := by decide +kernel
theorem dX10_touches_47 : decode cX10_touches 47 = .ok (.lload_n 0, 1) := by decide +kernel
theorem dX10_touches_48 : decode cX10_touches 48 = .ok (.iload_n 3, 1) := by decide +kernel
theorem dX10_touches_49 : decode cX10_touches 49 = .ok (.iload 4, 2) := by decide +kernel
theorem dX10_touches_51 : decode cX10_touches 51 = .ok (.iconst 1, 1) := by decide +kernel
theorem dX10_touches_52 : decode cX10_touches 52 = .ok (.iadd, 1) := by decide +kernel
theorem dX10_touches_53 : decode cX10_touches 53 = .ok (.invokestatic 108, 3) := by decide +kernel
theorem dX10_touches_56 : decode cX10_touches 56 = .ok (.ifCond .ne 7, 3) := by decide +kernel
theorem dX10_touches_63 : decode cX10_touches 63 = .ok (.iconst 0, 1) := by decide +kernel
set_option maxHeartbeats 4000000 in
set_option maxRecDepth 100000 in
theorem c_X10_touches (l : Launch) (x0 : Int64) (x1 : Int32) : Met l yX10_touches wsX10_touches ({ frames := 2, cells := 0, slots := 0, locals := 45 }) (va_Pc [.long x0, .int x1] (fun _ => True)) (vp_Si (fun r => r = bI (m_touch x0 x1))) 0 0 (fun _ => False) := by
  refine Met.ofW (cc := cX10_touches) (maxL := 5) (ret := (some .boolean)) (by decide) rfl ?_
  intro p e s m args below meth c s₁ B hml hv
  obtain ⟨rfl, -⟩ := hv
  have hx := B.exec
  have hb := B.bytes
  have hr := B.returns
  have hts := atoms_spec (ws := wsX10_touches) B.pre
  have hown : s.vm.findClass RX10 = some m.cls := findClass_of_methodNamed B.named
  have hlocks := B.notSynchronized
  have hl := lv_entry ([.long x0, .int x1]) (n := 5) (Nat.le_of_ble_eq_true rfl)
  rw [lg_entry_eq]
  generalize (lg_sl ([.long x0, .int x1]) ++ List.replicate (5 - (lg_sl ([.long x0, .int x1])).length) Slot.unset).toArray = ls at hl ⊢
  have hl : lv_has ls 5 [(0, .long x0), (2, .int x1)] := hl
  refine lv_iload_n hx hb dX10_touches_0 rfl (lv_at hl 1 rfl) ?_
  refine lv_bipush (v := 8) hx hb dX10_touches_1 (by decide) ?_
  refine lv_irem hx hb dX10_touches_3 (by decide) ?_
  refine lv_istore_n (lv' := [(3, .int (x1 - x1 / 8 * 8)), (0, .long x0), (2, .int x1)]) hx hb dX10_touches_4 rfl hl (by decide) rfl (fun ls hl => ?_)
  refine lv_iload_n hx hb dX10_touches_5 rfl (lv_at hl 2 rfl) ?_
  refine lv_bipush (v := 8) hx hb dX10_touches_6 (by decide) ?_
  refine lv_idiv hx hb dX10_touches_8 (by decide) ?_
  refine lv_istore (lv' := [(4, .int (x1 / 8)), (3, .int (x1 - x1 / 8 * 8)), (0, .long x0), (2, .int x1)]) hx hb dX10_touches_9 hl (by decide) rfl (fun ls hl => ?_)
  refine lv_lload_n hx hb dX10_touches_11 rfl (lv_at hl 2 rfl) ?_
  refine lv_iload_n hx hb dX10_touches_12 rfl (lv_at hl 1 rfl) ?_
  refine lv_iconst (v := 1) hx hb dX10_touches_13 (by decide) ?_
  refine lv_isub hx hb dX10_touches_14 ?_
  refine lv_iload hx hb dX10_touches_15 (lv_at hl 0 rfl) ?_
  refine kS_i (As := [.long x0, .int ((x1 - x1 / 8 * 8) - 1), .int (x1 / 8)]) (rest := []) ⟨hx, hb, hml, hown, hts⟩ (c_X10_isOn l x0 ((x1 - x1 / 8 * 8) - 1) (x1 / 8)) (va_cwS 3 hts gX10_touches_X10_isOn rfl rfl rfl (by decide +kernel) ⟨Nat.le_of_ble_eq_true rfl, Nat.le_of_ble_eq_true rfl⟩) rfl hl.1 rfl (Nat.le_of_ble_eq_true rfl) dX10_touches_17 ⟨Nat.le_of_ble_eq_true rfl, Nat.le_of_ble_eq_true rfl⟩ ?_
  refine lv_if_eq (tgt := 59) hx hb dX10_touches_20 (by decide) (fun c_1 => ?_) (fun c_1 => ?_)
  · replace c_1 := bI_f c_1
    refine lv_iconst (v := 1) hx hb dX10_touches_59 (by decide) ?_
    refine lv_goto (tgt := 64) hx hb dX10_touches_60 (by decide) ?_
    exact pret_z hx hb hr hlocks (by simp_all [bI, i32_nlt, i32_lt, m_touch]) dX10_touches_64
  · replace c_1 := bI_t c_1
    refine lv_lload_n hx hb dX10_touches_23 rfl (lv_at hl 2 rfl) ?_
    refine lv_iload_n hx hb dX10_touches_24 rfl (lv_at hl 1 rfl) ?_
    refine lv_iconst (v := 1) hx hb dX10_touches_25 (by decide) ?_
    refine lv_iadd hx hb dX10_touches_26 ?_
    refine lv_iload hx hb dX10_touches_27 (lv_at hl 0 rfl) ?_
    refine kS_i (As := [.long x0, .int ((x1 - x1 / 8 * 8) + 1), .int (x1 / 8)]) (rest := []) ⟨hx, hb, hml, hown, hts⟩ (c_X10_isOn l x0 ((x1 - x1 / 8 * 8) + 1) (x1 / 8)) (va_cwS 3 hts gX10_touches_X10_isOn rfl rfl rfl (by decide +kernel) ⟨Nat.le_of_ble_eq_true rfl, Nat.le_of_ble_eq_true rfl⟩) rfl hl.1 rfl (Nat.le_of_ble_eq_true rfl) dX10_touches_29 ⟨Nat.le_of_ble_eq_true rfl, Nat.le_of_ble_eq_true rfl⟩ ?_
    refine lv_if_eq (tgt := 59) hx hb dX10_touches_32 (by decide) (fun c_2 => ?_) (fun c_2 => ?_)
    · replace c_2 := bI_f c_2
      refine lv_iconst (v := 1) hx hb dX10_touches_59 (by decide) ?_
      refine lv_goto (tgt := 64) hx hb dX10_touches_60 (by decide) ?_
      exact pret_z hx hb hr hlocks (by simp_all [bI, i32_nlt, i32_lt, m_touch]) dX10_touches_64
    · replace c_2 := bI_t c_2
      refine lv_lload_n hx hb dX10_touches_35 rfl (lv_at hl 2 rfl) ?_
      refine lv_iload_n hx hb dX10_touches_36 rfl (lv_at hl 1 rfl) ?_
      refine lv_iload hx hb dX10_touches_37 (lv_at hl 0 rfl) ?_
      refine lv_iconst (v := 1) hx hb dX10_touches_39 (by decide) ?_
      refine lv_isub hx hb dX10_touches_40 ?_
      refine kS_i (As := [.long x0, .int (x1 - x1 / 8 * 8), .int ((x1 / 8) - 1)]) (rest := []) ⟨hx, hb, hml, hown, hts⟩ (c_X10_isOn l x0 (x1 - x1 / 8 * 8) ((x1 / 8) - 1)) (va_cwS 3 hts gX10_touches_X10_isOn rfl rfl rfl (by decide +kernel) ⟨Nat.le_of_ble_eq_true rfl, Nat.le_of_ble_eq_true rfl⟩) rfl hl.1 rfl (Nat.le_of_ble_eq_true rfl) dX10_touches_41 ⟨Nat.le_of_ble_eq_true rfl, Nat.le_of_ble_eq_true rfl⟩ ?_
      refine lv_if_eq (tgt := 59) hx hb dX10_touches_44 (by decide) (fun c_3 => ?_) (fun c_3 => ?_)
      · replace c_3 := bI_f c_3
        refine lv_iconst (v := 1) hx hb dX10_touches_59 (by decide) ?_
        refine lv_goto (tgt := 64) hx hb dX10_touches_60 (by decide) ?_
        exact pret_z hx hb hr hlocks (by simp_all [bI, i32_nlt, i32_lt, m_touch]) dX10_touches_64
      · replace c_3 := bI_t c_3
        refine lv_lload_n hx hb dX10_touches_47 rfl (lv_at hl 2 rfl) ?_
        refine lv_iload_n hx hb dX10_touches_48 rfl (lv_at hl 1 rfl) ?_
        refine lv_iload hx hb dX10_touches_49 (lv_at hl 0 rfl) ?_
        refine lv_iconst (v := 1) hx hb dX10_touches_51 (by decide) ?_
        refine lv_iadd hx hb dX10_touches_52 ?_
        refine kS_i (As := [.long x0, .int (x1 - x1 / 8 * 8), .int ((x1 / 8) + 1)]) (rest := []) ⟨hx, hb, hml, hown, hts⟩ (c_X10_isOn l x0 (x1 - x1 / 8 * 8) ((x1 / 8) + 1)) (va_cwS 3 hts gX10_touches_X10_isOn rfl rfl rfl (by decide +kernel) ⟨Nat.le_of_ble_eq_true rfl, Nat.le_of_ble_eq_true rfl⟩) rfl hl.1 rfl (Nat.le_of_ble_eq_true rfl) dX10_touches_53 ⟨Nat.le_of_ble_eq_true rfl, Nat.le_of_ble_eq_true rfl⟩ ?_
        refine lv_if_ne (tgt := 63) hx hb dX10_touches_56 (by decide) (fun c_4 => ?_) (fun c_4 => ?_)
        · replace c_4 := bI_t c_4
          refine lv_iconst (v := 0) hx hb dX10_touches_63 (by decide) ?_
          exact pret_z hx hb hr hlocks (by simp_all [bI, i32_nlt, i32_lt, m_touch]) dX10_touches_64
        · replace c_4 := bI_f c_4
          refine lv_iconst (v := 1) hx hb dX10_touches_59 (by decide) ?_
          refine lv_goto (tgt := 64) hx hb dX10_touches_60 (by decide) ?_
          exact pret_z hx hb hr hlocks (by simp_all [bI, i32_nlt, i32_lt, m_touch]) dX10_touches_64
theorem dX10_isAtEdge_0 : decode cX10_isAtEdge 0 = .ok (.lload_n 0, 1) := by decide +kernel
theorem dX10_isAtEdge_1 : decode cX10_isAtEdge 1 = .ok (.iload_n 2, 1) := by decide +kernel
set_option maxRecDepth 20000 in
theorem ggX10_isAtEdge_X10_touches : GoodIn wsX10_isAtEdge wsX10_touches := goodIn_r _ [4, 5, 6, 3, 7, 8, 9, 10, 11, 12, 13] rfl (by decide +kernel)
set_option maxRecDepth 20000 in
theorem gX10_isAtEdge_X10_touches : GoodIn wsX10_isAtEdge (va_wsS RX10 112 yX10_touches wsX10_touches) := goodIn_app (goodIn_r _ [1, 2, 3] rfl (by decide +kernel)) ggX10_isAtEdge_X10_touches
theorem dX10_isAtEdge_2 : decode cX10_isAtEdge 2 = .ok (.invokestatic 112, 3) := by decide +kernel
theorem dX10_isAtEdge_5 : decode cX10_isAtEdge 5 = .ok (.ifCond .ne 22, 3) := by decide +kernel
theorem dX10_isAtEdge_27 : decode cX10_isAtEdge 27 = .ok (.iconst 1, 1) := by decide +kernel
theorem dX10_isAtEdge_28 : decode cX10_isAtEdge 28 = .ok (.goto 4, 3) := by decide +kernel
theorem dX10_isAtEdge_32 : decode cX10_isAtEdge 32 = .ok (.ireturn, 1) := by decide +kernel
theorem dX10_isAtEdge_8 : decode cX10_isAtEdge 8 = .ok (.lload_n 0, 1) := by decide +kernel
theorem dX10_isAtEdge_9 : decode cX10_isAtEdge 9 = .ok (.iload_n 2, 1) := by decide +kernel
theorem dX10_isAtEdge_10 : decode cX10_isAtEdge 10 = .ok (.iload_n 3, 1) := by decide +kernel
theorem dX10_isAtEdge_11 : decode cX10_isAtEdge 11 = .ok (.ifCond .eq 8, 3) := by decide +kernel
theorem dX10_isAtEdge_19 : decode cX10_isAtEdge 19 = .ok (.iconst 1, 1) := by decide +kernel
theorem dX10_isAtEdge_20 : decode cX10_isAtEdge 20 = .ok (.iadd, 1) := by decide +kernel
theorem dX10_isAtEdge_21 : decode cX10_isAtEdge 21 = .ok (.invokestatic 112, 3) := by decide +kernel
theorem dX10_isAtEdge_24 : decode cX10_isAtEdge 24 = .ok (.ifCond .eq 7, 3) := by decide +kernel
theorem dX10_isAtEdge_31 : decode cX10_isAtEdge 31 = .ok (.iconst 0, 1) := by decide +kernel
theorem dX10_isAtEdge_14 : decode cX10_isAtEdge 14 = .ok (.bipush 8, 2) := by decide +kernel
theorem dX10_isAtEdge_16 : decode cX10_isAtEdge 16 = .ok (.goto 4, 3) := by decide +kernel
set_option maxHeartbeats 4000000 in
set_option maxRecDepth 100000 in
theorem c_X10_isAtEdge (l : Launch) (x0 : Int64) (x1 : Int32) (x2 : Bool) : Met l yX10_isAtEdge wsX10_isAtEdge ({ frames := 3, cells := 0, slots := 0, locals := 69 }) (va_Pc [.long x0, .int x1, .int (bI x2)] (fun _ => True)) (vp_Si (fun r => r = bI (m_edge x0 x1 x2))) 0 0 (fun _ => False) := by
  refine Met.ofW (cc := cX10_isAtEdge) (maxL := 4) (ret := (some .boolean)) (by decide) rfl ?_
  intro p e s m args below meth c s₁ B hml hv
  obtain ⟨rfl, -⟩ := hv
  have hx := B.exec
  have hb := B.bytes
  have hr := B.returns
  have hts := atoms_spec (ws := wsX10_isAtEdge) B.pre
  have hown : s.vm.findClass RX10 = some m.cls := findClass_of_methodNamed B.named
  have hlocks := B.notSynchronized
  have hl := lv_entry ([.long x0, .int x1, .int (bI x2)]) (n := 4) (Nat.le_of_ble_eq_true rfl)
  rw [lg_entry_eq]
  generalize (lg_sl ([.long x0, .int x1, .int (bI x2)]) ++ List.replicate (4 - (lg_sl ([.long x0, .int x1, .int (bI x2)])).length) Slot.unset).toArray = ls at hl ⊢
  have hl : lv_has ls 4 [(0, .long x0), (2, .int x1), (3, .int (bI x2))] := hl
  refine lv_lload_n hx hb dX10_isAtEdge_0 rfl (lv_at hl 0 rfl) ?_
  refine lv_iload_n hx hb dX10_isAtEdge_1 rfl (lv_at hl 1 rfl) ?_
  refine kS_i (As := [.long x0, .int x1]) (rest := []) ⟨hx, hb, hml, hown, hts⟩ (c_X10_touches l x0 x1) (va_cwS 2 hts gX10_isAtEdge_X10_touches rfl rfl rfl (by decide +kernel) ⟨Nat.le_of_ble_eq_true rfl, Nat.le_of_ble_eq_true rfl⟩) rfl hl.1 rfl (Nat.le_of_ble_eq_true rfl) dX10_isAtEdge_2 ⟨Nat.le_of_ble_eq_true rfl, Nat.le_of_ble_eq_true rfl⟩ ?_
  refine lv_if_ne (tgt := 27) hx hb dX10_isAtEdge_5 (by decide) (fun c_1 => ?_) (fun c_1 => ?_)
  · replace c_1 := bI_t c_1
    refine lv_iconst (v := 1) hx hb dX10_isAtEdge_27 (by decide) ?_
    refine lv_goto (tgt := 32) hx hb dX10_isAtEdge_28 (by decide) ?_
    exact pret_z hx hb hr hlocks (by simp_all [bI, i32_nlt, i32_lt, m_edge]) dX10_isAtEdge_32
  · replace c_1 := bI_f c_1
    refine lv_lload_n hx hb dX10_isAtEdge_8 rfl (lv_at hl 0 rfl) ?_
    refine lv_iload_n hx hb dX10_isAtEdge_9 rfl (lv_at hl 1 rfl) ?_
    refine lv_iload_n hx hb dX10_isAtEdge_10 rfl (lv_at hl 2 rfl) ?_
    refine lv_if_eq (tgt := 19) hx hb dX10_isAtEdge_11 (by decide) (fun c_2 => ?_) (fun c_2 => ?_)
    · replace c_2 := bI_f c_2
      refine lv_iconst (v := 1) hx hb dX10_isAtEdge_19 (by decide) ?_
      refine lv_iadd hx hb dX10_isAtEdge_20 ?_
      refine kS_i (As := [.long x0, .int (x1 + 1)]) (rest := []) ⟨hx, hb, hml, hown, hts⟩ (c_X10_touches l x0 (x1 + 1)) (va_cwS 2 hts gX10_isAtEdge_X10_touches rfl rfl rfl (by decide +kernel) ⟨Nat.le_of_ble_eq_true rfl, Nat.le_of_ble_eq_true rfl⟩) rfl hl.1 rfl (Nat.le_of_ble_eq_true rfl) dX10_isAtEdge_21 ⟨Nat.le_of_ble_eq_true rfl, Nat.le_of_ble_eq_true rfl⟩ ?_
      refine lv_if_eq (tgt := 31) hx hb dX10_isAtEdge_24 (by decide) (fun c_3 => ?_) (fun c_3 => ?_)
      · replace c_3 := bI_f c_3
        refine lv_iconst (v := 0) hx hb dX10_isAtEdge_31 (by decide) ?_
        exact pret_z hx hb hr hlocks (by simp_all [bI, i32_nlt, i32_lt, m_edge]) dX10_isAtEdge_32
      · replace c_3 := bI_t c_3
        refine lv_iconst (v := 1) hx hb dX10_isAtEdge_27 (by decide) ?_
        refine lv_goto (tgt := 32) hx hb dX10_isAtEdge_28 (by decide) ?_
        exact pret_z hx hb hr hlocks (by simp_all [bI, i32_nlt, i32_lt, m_edge]) dX10_isAtEdge_32
    · replace c_2 := bI_t c_2
      refine lv_bipush (v := 8) hx hb dX10_isAtEdge_14 (by decide) ?_
      refine lv_goto (tgt := 20) hx hb dX10_isAtEdge_16 (by decide) ?_
      refine lv_iadd hx hb dX10_isAtEdge_20 ?_
      refine kS_i (As := [.long x0, .int (x1 + 8)]) (rest := []) ⟨hx, hb, hml, hown, hts⟩ (c_X10_touches l x0 (x1 + 8)) (va_cwS 2 hts gX10_isAtEdge_X10_touches rfl rfl rfl (by decide +kernel) ⟨Nat.le_of_ble_eq_true rfl, Nat.le_of_ble_eq_true rfl⟩) rfl hl.1 rfl (Nat.le_of_ble_eq_true rfl) dX10_isAtEdge_21 ⟨Nat.le_of_ble_eq_true rfl, Nat.le_of_ble_eq_true rfl⟩ ?_
      refine lv_if_eq (tgt := 31) hx hb dX10_isAtEdge_24 (by decide) (fun c_4 => ?_) (fun c_4 => ?_)
      · replace c_4 := bI_f c_4
        refine lv_iconst (v := 0) hx hb dX10_isAtEdge_31 (by decide) ?_
        exact pret_z hx hb hr hlocks (by simp_all [bI, i32_nlt, i32_lt, m_edge]) dX10_isAtEdge_32
      · replace c_4 := bI_t c_4
        refine lv_iconst (v := 1) hx hb dX10_isAtEdge_27 (by decide) ?_
        refine lv_goto (tgt := 32) hx hb dX10_isAtEdge_28 (by decide) ?_
        exact pret_z hx hb hr hlocks (by simp_all [bI, i32_nlt, i32_lt, m_edge]) dX10_isAtEdge_32
