def m_alongAt (f : Int32) : Int64 := (1 : Int64) <<< (f.toInt64 &&& 63) ||| (1 : Int64) <<< ((f + 8).toInt64 &&& 63)
def m_acrossAt (f : Int32) : Int64 := (3 : Int64) <<< (f.toInt64 &&& 63)
def m_isPoint (fl : Int64) (x y : Int32) : Bool := m_isOn fl x y || (m_isOn fl (x - 1) y || (m_isOn fl x (y - 1) || m_isOn fl (x - 1) (y - 1)))
def m_right (fl ac : Int64) (x y : Int32) : Bool := (m_isOn fl x (y - 1) || m_isOn fl x y) && !m_isOn ac x (y - 1)
def m_down (fl al : Int64) (x y : Int32) : Bool := (m_isOn fl (x - 1) y || m_isOn fl x y) && !m_isOn al (x - 1) y
def m_midst (f : Int32) : Int32 := 9 * (f / 8 + 1) + (f - f / 8 * 8) + 1
def m_darkF (fl : Int64) (f : Int32) : Bool := m_hasBit fl f && m_isDark (f - f / 8 * 8) (f / 8)
theorem dX10_alongAt_0 : decode cX10_alongAt 0 = .ok (.lconst 1, 1) := by decide +kernel
theorem dX10_alongAt_1 : decode cX10_alongAt 1 = .ok (.iload_n 0, 1) := by decide +kernel
theorem dX10_alongAt_2 : decode cX10_alongAt 2 = .ok (.lshl, 1) := by decide +kernel
theorem dX10_alongAt_3 : decode cX10_alongAt 3 = .ok (.lconst 1, 1) := by decide +kernel
theorem dX10_alongAt_4 : decode cX10_alongAt 4 = .ok (.iload_n 0, 1) := by decide +kernel
theorem dX10_alongAt_5 : decode cX10_alongAt 5 = .ok (.bipush 8, 2) := by decide +kernel
theorem dX10_alongAt_7 : decode cX10_alongAt 7 = .ok (.iadd, 1) := by decide +kernel
theorem dX10_alongAt_8 : decode cX10_alongAt 8 = .ok (.lshl, 1) := by decide +kernel
theorem dX10_alongAt_9 : decode cX10_alongAt 9 = .ok (.lor, 1) := by decide +kernel
theorem dX10_alongAt_10 : decode cX10_alongAt 10 = .ok (.lreturn, 1) := by decide +kernel
set_option maxHeartbeats 4000000 in
set_option maxRecDepth 100000 in
theorem c_X10_alongAt (l : Launch) (x0 : Int32) : Met l yX10_alongAt wsX10_alongAt ({ frames := 0, cells := 0, slots := 0, locals := 0 }) (va_Pc [.int x0] (fun _ => True)) (vp_Sl (fun r => r = m_alongAt x0)) 0 0 (fun _ => False) := by
  refine Met.ofW (cc := cX10_alongAt) (maxL := 1) (ret := (some .long)) (by decide) rfl ?_
  intro p e s m args below meth c s₁ B hml hv
  obtain ⟨rfl, -⟩ := hv
  have hx := B.exec
  have hb := B.bytes
  have hr := B.returns
  have hts := atoms_spec (ws := wsX10_alongAt) B.pre
  have hown : s.vm.findClass RX10 = some m.cls := findClass_of_methodNamed B.named
  have hlocks := B.notSynchronized
  have hl := lv_entry ([.int x0]) (n := 1) (Nat.le_of_ble_eq_true rfl)
  rw [lg_entry_eq]
  generalize (lg_sl ([.int x0]) ++ List.replicate (1 - (lg_sl ([.int x0])).length) Slot.unset).toArray = ls at hl ⊢
  have hl : lv_has ls 1 [(0, .int x0)] := hl
  refine lv_lconst (v := 1) hx hb dX10_alongAt_0 (by decide) ?_
  refine lv_iload_n hx hb dX10_alongAt_1 rfl (lv_at hl 0 rfl) ?_
  refine lv_lshl (v := (1 : Int64) <<< ((x0 : Int32).toInt64 &&& 63)) hx hb dX10_alongAt_2 rfl ?_
  refine lv_lconst (v := 1) hx hb dX10_alongAt_3 (by decide) ?_
  refine lv_iload_n hx hb dX10_alongAt_4 rfl (lv_at hl 0 rfl) ?_
  refine lv_bipush (v := 8) hx hb dX10_alongAt_5 (by decide) ?_
  refine lv_iadd hx hb dX10_alongAt_7 ?_
  refine lv_lshl (v := (1 : Int64) <<< ((x0 + 8 : Int32).toInt64 &&& 63)) hx hb dX10_alongAt_8 rfl ?_
  refine lv_lor hx hb dX10_alongAt_9 ?_
  exact pret_l hx hb hr hlocks rfl dX10_alongAt_10
theorem dX10_acrossAt_0 : decode cX10_acrossAt 0 = .ok (.ldc2_w 106, 3) := by decide +kernel
theorem dX10_acrossAt_3 : decode cX10_acrossAt 3 = .ok (.iload_n 0, 1) := by decide +kernel
theorem dX10_acrossAt_4 : decode cX10_acrossAt 4 = .ok (.lshl, 1) := by decide +kernel
theorem dX10_acrossAt_5 : decode cX10_acrossAt 5 = .ok (.lreturn, 1) := by decide +kernel
set_option maxHeartbeats 4000000 in
set_option maxRecDepth 100000 in
theorem c_X10_acrossAt (l : Launch) (x0 : Int32) : Met l yX10_acrossAt wsX10_acrossAt ({ frames := 0, cells := 0, slots := 0, locals := 0 }) (va_Pc [.int x0] (fun _ => True)) (vp_Sl (fun r => r = m_acrossAt x0)) 0 0 (fun _ => False) := by
  refine Met.ofW (cc := cX10_acrossAt) (maxL := 1) (ret := (some .long)) (by decide) rfl ?_
  intro p e s m args below meth c s₁ B hml hv
  obtain ⟨rfl, -⟩ := hv
  have hx := B.exec
  have hb := B.bytes
  have hr := B.returns
  have hts := atoms_spec (ws := wsX10_acrossAt) B.pre
  have hown : s.vm.findClass RX10 = some m.cls := findClass_of_methodNamed B.named
  have hlocks := B.notSynchronized
  have hw0 := hts (.constantLong RX10 106 (3)) (by decide +kernel)
  have hl := lv_entry ([.int x0]) (n := 1) (Nat.le_of_ble_eq_true rfl)
  rw [lg_entry_eq]
  generalize (lg_sl ([.int x0]) ++ List.replicate (1 - (lg_sl ([.int x0])).length) Slot.unset).toArray = ls at hl ⊢
  have hl : lv_has ls 1 [(0, .int x0)] := hl
  refine lv_ldc2 (v := 3) hx hb hown hw0 dX10_acrossAt_0 ?_
  refine lv_iload_n hx hb dX10_acrossAt_3 rfl (lv_at hl 0 rfl) ?_
  refine lv_lshl (v := (3 : Int64) <<< ((x0 : Int32).toInt64 &&& 63)) hx hb dX10_acrossAt_4 rfl ?_
  exact pret_l hx hb hr hlocks rfl dX10_acrossAt_5
theorem dX10_midst_0 : decode cX10_midst 0 = .ok (.bipush 9, 2) := by decide +kernel
theorem dX10_midst_2 : decode cX10_midst 2 = .ok (.iload_n 0, 1) := by decide +kernel
theorem dX10_midst_3 : decode cX10_midst 3 = .ok (.bipush 8, 2) := by decide +kernel
theorem dX10_midst_5 : decode cX10_midst 5 = .ok (.idiv, 1) := by decide +kernel
theorem dX10_midst_6 : decode cX10_midst 6 = .ok (.iconst 1, 1) := by decide +kernel
theorem dX10_midst_7 : decode cX10_midst 7 = .ok (.iadd, 1) := by decide +kernel
theorem dX10_midst_8 : decode cX10_midst 8 = .ok (.imul, 1) := by decide +kernel
theorem dX10_midst_9 : decode cX10_midst 9 = .ok (.iload_n 0, 1) := by decide +kernel
theorem dX10_midst_10 : decode cX10_midst 10 = .ok (.bipush 8, 2) := by decide +kernel
theorem dX10_midst_12 : decode cX10_midst 12 = .ok (.irem, 1) := by decide +kernel
theorem dX10_midst_13 : decode cX10_midst 13 = .ok (.iadd, 1) := by decide +kernel
theorem dX10_midst_14 : decode cX10_midst 14 = .ok (.iconst 1, 1) := by decide +kernel
theorem dX10_midst_15 : decode cX10_midst 15 = .ok (.iadd, 1) := by decide +kernel
theorem dX10_midst_16 : decode cX10_midst 16 = .ok (.ireturn, 1) := by decide +kernel
set_option maxHeartbeats 4000000 in
set_option maxRecDepth 100000 in
theorem c_X10_midst (l : Launch) (x0 : Int32) : Met l yX10_midst wsX10_midst ({ frames := 0, cells := 0, slots := 0, locals := 0 }) (va_Pc [.int x0] (fun _ => True)) (vp_Si (fun r => r = m_midst x0)) 0 0 (fun _ => False) := by
  refine Met.ofW (cc := cX10_midst) (maxL := 1) (ret := (some .int)) (by decide) rfl ?_
  intro p e s m args below meth c s₁ B hml hv
  obtain ⟨rfl, -⟩ := hv
  have hx := B.exec
  have hb := B.bytes
  have hr := B.returns
  have hts := atoms_spec (ws := wsX10_midst) B.pre
  have hown : s.vm.findClass RX10 = some m.cls := findClass_of_methodNamed B.named
  have hlocks := B.notSynchronized
  have hl := lv_entry ([.int x0]) (n := 1) (Nat.le_of_ble_eq_true rfl)
  rw [lg_entry_eq]
  generalize (lg_sl ([.int x0]) ++ List.replicate (1 - (lg_sl ([.int x0])).length) Slot.unset).toArray = ls at hl ⊢
  have hl : lv_has ls 1 [(0, .int x0)] := hl
  refine lv_bipush (v := 9) hx hb dX10_midst_0 (by decide) ?_
  refine lv_iload_n hx hb dX10_midst_2 rfl (lv_at hl 0 rfl) ?_
  refine lv_bipush (v := 8) hx hb dX10_midst_3 (by decide) ?_
  refine lv_idiv hx hb dX10_midst_5 (by decide) ?_
  refine lv_iconst (v := 1) hx hb dX10_midst_6 (by decide) ?_
  refine lv_iadd hx hb dX10_midst_7 ?_
  refine lv_imul hx hb dX10_midst_8 ?_
  refine lv_iload_n hx hb dX10_midst_9 rfl (lv_at hl 0 rfl) ?_
  refine lv_bipush (v := 8) hx hb dX10_midst_10 (by decide) ?_
  refine lv_irem hx hb dX10_midst_12 (by decide) ?_
  refine lv_iadd hx hb dX10_midst_13 ?_
  refine lv_iconst (v := 1) hx hb dX10_midst_14 (by decide) ?_
  refine lv_iadd hx hb dX10_midst_15 ?_
  exact pret_i hx hb hr hlocks rfl dX10_midst_16
theorem dX10_isPoint_0 : decode cX10_isPoint 0 = .ok (.aload_n 0, 1) := by decide +kernel
theorem dX10_isPoint_1 : decode cX10_isPoint 1 = .ok (.getfield 81, 3) := by decide +kernel
theorem dX10_isPoint_4 : decode cX10_isPoint 4 = .ok (.iload_n 1, 1) := by decide +kernel
theorem dX10_isPoint_5 : decode cX10_isPoint 5 = .ok (.iload_n 2, 1) := by decide +kernel
set_option maxRecDepth 20000 in
theorem ggX10_isPoint_X10_isOn : GoodIn wsX10_isPoint wsX10_isOn := goodIn_r _ [5, 6, 7, 4, 8, 9, 10, 11] rfl (by decide +kernel)
set_option maxRecDepth 20000 in
theorem gX10_isPoint_X10_isOn : GoodIn wsX10_isPoint (va_wsS RX10 108 yX10_isOn wsX10_isOn) := goodIn_app (goodIn_r _ [2, 3, 4] rfl (by decide +kernel)) ggX10_isPoint_X10_isOn
theorem dX10_isPoint_6 : decode cX10_isPoint 6 = .ok (.invokestatic 108, 3) := by decide +kernel
theorem dX10_isPoint_9 : decode cX10_isPoint 9 = .ok (.ifCond .ne 47, 3) := by decide +kernel
theorem dX10_isPoint_56 : decode cX10_isPoint 56 = .ok (.iconst 1, 1) := by decide +kernel
theorem dX10_isPoint_57 : decode cX10_isPoint 57 = .ok (.goto 4, 3) := by decide +kernel
theorem dX10_isPoint_61 : decode cX10_isPoint 61 = .ok (.ireturn, 1) := by decide +kernel
theorem dX10_isPoint_12 : decode cX10_isPoint 12 = .ok (.aload_n 0, 1) := by decide +kernel
theorem dX10_isPoint_13 : decode cX10_isPoint 13 = .ok (.getfield 81, 3) := by decide +kernel
theorem dX10_isPoint_16 : decode cX10_isPoint 16 = .ok (.iload_n 1, 1) := by decide +kernel
theorem dX10_isPoint_17 : decode cX10_isPoint 17 = .ok (.iconst 1, 1) := by decide +kernel
theorem dX10_isPoint_18 : decode cX10_isPoint 18 = .ok (.isub, 1) := by decide +kernel
theorem dX10_isPoint_19 : decode cX10_isPoint 19 = .ok (.iload_n 2, 1) := by decide +kernel
theorem dX10_isPoint_20 : decode cX10_isPoint 20 = .ok (.invokestatic 108, 3) := by decide +kernel
theorem dX10_isPoint_23 : decode cX10_isPoint 23 = .ok (.ifCond .ne 33, 3) := by decide +kernel
theorem dX10_isPoint_26 : decode cX10_isPoint 26 = .ok (.aload_n 0, 1) := by decide +kernel
theorem dX10_isPoint_27 : decode cX10_isPoint 27 = .ok (.getfield 81, 3) := by decide +kernel
theorem dX10_isPoint_30 : decode cX10_isPoint 30 = .ok (.iload_n 1, 1) := by decide +kernel
theorem dX10_isPoint_31 : decode cX10_isPoint 31 = .ok (.iload_n 2, 1) := by decide +kernel
theorem dX10_isPoint_32 : decode cX10_isPoint 32 = .ok (.iconst 1, 1) := by decide +kernel
theorem dX10_isPoint_33 : decode cX10_isPoint 33 = .ok (.isub, 1) := by decide +kernel
theorem dX10_isPoint_34 : decode cX10_isPoint 34 = .ok (.invokestatic 108, 3) := by decide +kernel
theorem dX10_isPoint_37 : decode cX10_isPoint 37 = .ok (.ifCond .ne 19, 3) := by decide +kernel
theorem dX10_isPoint_40 : decode cX10_isPoint 40 = .ok (.aload_n 0, 1) := by decide +kernel
theorem dX10_isPoint_41 : decode cX10_isPoint 41 = .ok (.getfield 81, 3) := by decide +kernel
theorem dX10_isPoint_44 : decode cX10_isPoint 44 = .ok (.iload_n 1, 1) := by decide +kernel
theorem dX10_isPoint_45 : decode cX10_isPoint 45 = .ok (.iconst 1, 1) := by decide +kernel
theorem dX10_isPoint_46 : decode cX10_isPoint 46 = .ok (.isub, 1) := by decide +kernel
theorem dX10_isPoint_47 : decode cX10_isPoint 47 = .ok (.iload_n 2, 1) := by decide +kernel
theorem dX10_isPoint_48 : decode cX10_isPoint 48 = .ok (.iconst 1, 1) := by decide +kernel
theorem dX10_isPoint_49 : decode cX10_isPoint 49 = .ok (.isub, 1) := by decide +kernel
theorem dX10_isPoint_50 : decode cX10_isPoint 50 = .ok (.invokestatic 108, 3) := by decide +kernel
theorem dX10_isPoint_53 : decode cX10_isPoint 53 = .ok (.ifCond .eq 7, 3) := by decide +kernel
theorem dX10_isPoint_60 : decode cX10_isPoint 60 = .ok (.iconst 0, 1) := by decide +kernel
set_option maxRecDepth 20000 in
theorem ihX10_isPoint_10 : ∀ w ∈ u_ws RX10 TX10 30, w ∈ wsX10_isPoint := fun _ h => List.mem_cons_of_mem _ (List.mem_append_right _ h)
set_option maxHeartbeats 4000000 in
set_option maxRecDepth 100000 in
theorem c_X10_isPoint (l : Launch) (D : va_G) (cy : Nat → ClassId) (a : Nat → Nat) (sz : Nat) (J : Nat → Int64) (I : Nat → Int32) (R : Nat → Nat → Int32) (RJ : Nat → Nat → Int64) (x0 : Int32) (x1 : Int32) : Met l yX10_isPoint wsX10_isPoint ({ frames := 2, cells := 0, slots := 0, locals := 45 }) (va_Pc [.ref (a 0), .int x0, .int x1] (PW D cy sz (MW cy a J I R RJ))) (vp_Si (fun r => r = bI (m_isPoint (J 0) x0 x1))) 0 0 (fun _ => False) := by
  refine Met.ofW (cc := cX10_isPoint) (maxL := 3) (ret := (some .boolean)) (by decide) rfl ?_
  intro p e s m args below meth c s₁ B hml hv
  obtain ⟨rfl, rfl, hP, hK, hN, hD0⟩ := hv
  have hx := B.exec
  have hb := B.bytes
  have hr := B.returns
  have hts := atoms_spec (ws := wsX10_isPoint) B.pre
  have hown : s.vm.findClass RX10 = some m.cls := findClass_of_methodNamed B.named
  have hlocks := B.notSynchronized
  have hw0 := hts (.fieldLink RX10 81 "ParquetLayerModel" "floor" "J") (by decide +kernel)
  have hi10 := ihX10_isPoint_10
  have hD := hD0
  have hl := lv_entry ([.ref (a 0), .int x0, .int x1]) (n := 3) (Nat.le_of_ble_eq_true rfl)
  rw [lg_entry_eq]
  generalize (lg_sl ([.ref (a 0), .int x0, .int x1]) ++ List.replicate (3 - (lg_sl ([.ref (a 0), .int x0, .int x1])).length) Slot.unset).toArray = ls at hl ⊢
  have hl : lv_has ls 3 [(0, .ref (a 0)), (1, .int x0), (2, .int x1)] := hl
  refine lv_aload_n hx hb dX10_isPoint_0 rfl (lv_at hl 0 rfl) ?_
  refine va_get (D := D) (ci := 9) (v := .long (J 0)) (C := RX10) (T := TX10) (N := 30) hx hb hts hi10 hown hK hP 0 rfl rfl 0 (by decide) hw0 (fun _ h9 => h9) rfl dX10_isPoint_1 ?_
  refine lv_iload_n hx hb dX10_isPoint_4 rfl (lv_at hl 1 rfl) ?_
  refine lv_iload_n hx hb dX10_isPoint_5 rfl (lv_at hl 2 rfl) ?_
  refine kS_i (As := [.long (J 0), .int x0, .int x1]) (rest := []) ⟨hx, hb, hml, hown, hts⟩ (c_X10_isOn l (J 0) x0 x1) (va_cwS 3 hts gX10_isPoint_X10_isOn rfl rfl rfl (by decide +kernel) ⟨Nat.le_of_ble_eq_true rfl, Nat.le_of_ble_eq_true rfl⟩) rfl hl.1 rfl (Nat.le_of_ble_eq_true rfl) dX10_isPoint_6 ⟨Nat.le_of_ble_eq_true rfl, Nat.le_of_ble_eq_true rfl⟩ ?_
  refine lv_if_ne (tgt := 56) hx hb dX10_isPoint_9 (by decide) (fun c_1 => ?_) (fun c_1 => ?_)
  · replace c_1 := bI_t c_1
    refine lv_iconst (v := 1) hx hb dX10_isPoint_56 (by decide) ?_
    refine lv_goto (tgt := 61) hx hb dX10_isPoint_57 (by decide) ?_
    exact pret_z hx hb hr hlocks (by simp [m_isPoint, bI, c_1]) dX10_isPoint_61
  · replace c_1 := bI_f c_1
    refine lv_aload_n hx hb dX10_isPoint_12 rfl (lv_at hl 0 rfl) ?_
    refine va_get (D := D) (ci := 9) (v := .long (J 0)) (C := RX10) (T := TX10) (N := 30) hx hb hts hi10 hown hK hP 0 rfl rfl 0 (by decide) hw0 (fun _ h9 => h9) rfl dX10_isPoint_13 ?_
    refine lv_iload_n hx hb dX10_isPoint_16 rfl (lv_at hl 1 rfl) ?_
    refine lv_iconst (v := 1) hx hb dX10_isPoint_17 (by decide) ?_
    refine lv_isub hx hb dX10_isPoint_18 ?_
    refine lv_iload_n hx hb dX10_isPoint_19 rfl (lv_at hl 2 rfl) ?_
    refine kS_i (As := [.long (J 0), .int (x0 - 1), .int x1]) (rest := []) ⟨hx, hb, hml, hown, hts⟩ (c_X10_isOn l (J 0) (x0 - 1) x1) (va_cwS 3 hts gX10_isPoint_X10_isOn rfl rfl rfl (by decide +kernel) ⟨Nat.le_of_ble_eq_true rfl, Nat.le_of_ble_eq_true rfl⟩) rfl hl.1 rfl (Nat.le_of_ble_eq_true rfl) dX10_isPoint_20 ⟨Nat.le_of_ble_eq_true rfl, Nat.le_of_ble_eq_true rfl⟩ ?_
    refine lv_if_ne (tgt := 56) hx hb dX10_isPoint_23 (by decide) (fun c_2 => ?_) (fun c_2 => ?_)
    · replace c_2 := bI_t c_2
      refine lv_iconst (v := 1) hx hb dX10_isPoint_56 (by decide) ?_
      refine lv_goto (tgt := 61) hx hb dX10_isPoint_57 (by decide) ?_
      exact pret_z hx hb hr hlocks (by simp [m_isPoint, bI, c_1, c_2]) dX10_isPoint_61
    · replace c_2 := bI_f c_2
      refine lv_aload_n hx hb dX10_isPoint_26 rfl (lv_at hl 0 rfl) ?_
      refine va_get (D := D) (ci := 9) (v := .long (J 0)) (C := RX10) (T := TX10) (N := 30) hx hb hts hi10 hown hK hP 0 rfl rfl 0 (by decide) hw0 (fun _ h9 => h9) rfl dX10_isPoint_27 ?_
      refine lv_iload_n hx hb dX10_isPoint_30 rfl (lv_at hl 1 rfl) ?_
      refine lv_iload_n hx hb dX10_isPoint_31 rfl (lv_at hl 2 rfl) ?_
      refine lv_iconst (v := 1) hx hb dX10_isPoint_32 (by decide) ?_
      refine lv_isub hx hb dX10_isPoint_33 ?_
      refine kS_i (As := [.long (J 0), .int x0, .int (x1 - 1)]) (rest := []) ⟨hx, hb, hml, hown, hts⟩ (c_X10_isOn l (J 0) x0 (x1 - 1)) (va_cwS 3 hts gX10_isPoint_X10_isOn rfl rfl rfl (by decide +kernel) ⟨Nat.le_of_ble_eq_true rfl, Nat.le_of_ble_eq_true rfl⟩) rfl hl.1 rfl (Nat.le_of_ble_eq_true rfl) dX10_isPoint_34 ⟨Nat.le_of_ble_eq_true rfl, Nat.le_of_ble_eq_true rfl⟩ ?_
      refine lv_if_ne (tgt := 56) hx hb dX10_isPoint_37 (by decide) (fun c_3 => ?_) (fun c_3 => ?_)
      · replace c_3 := bI_t c_3
        refine lv_iconst (v := 1) hx hb dX10_isPoint_56 (by decide) ?_
        refine lv_goto (tgt := 61) hx hb dX10_isPoint_57 (by decide) ?_
        exact pret_z hx hb hr hlocks (by simp [m_isPoint, bI, c_1, c_2, c_3]) dX10_isPoint_61
      · replace c_3 := bI_f c_3
        refine lv_aload_n hx hb dX10_isPoint_40 rfl (lv_at hl 0 rfl) ?_
        refine va_get (D := D) (ci := 9) (v := .long (J 0)) (C := RX10) (T := TX10) (N := 30) hx hb hts hi10 hown hK hP 0 rfl rfl 0 (by decide) hw0 (fun _ h9 => h9) rfl dX10_isPoint_41 ?_
        refine lv_iload_n hx hb dX10_isPoint_44 rfl (lv_at hl 1 rfl) ?_
        refine lv_iconst (v := 1) hx hb dX10_isPoint_45 (by decide) ?_
        refine lv_isub hx hb dX10_isPoint_46 ?_
        refine lv_iload_n hx hb dX10_isPoint_47 rfl (lv_at hl 2 rfl) ?_
        refine lv_iconst (v := 1) hx hb dX10_isPoint_48 (by decide) ?_
        refine lv_isub hx hb dX10_isPoint_49 ?_
        refine kS_i (As := [.long (J 0), .int (x0 - 1), .int (x1 - 1)]) (rest := []) ⟨hx, hb, hml, hown, hts⟩ (c_X10_isOn l (J 0) (x0 - 1) (x1 - 1)) (va_cwS 3 hts gX10_isPoint_X10_isOn rfl rfl rfl (by decide +kernel) ⟨Nat.le_of_ble_eq_true rfl, Nat.le_of_ble_eq_true rfl⟩) rfl hl.1 rfl (Nat.le_of_ble_eq_true rfl) dX10_isPoint_50 ⟨Nat.le_of_ble_eq_true rfl, Nat.le_of_ble_eq_true rfl⟩ ?_
        refine lv_if_eq (tgt := 60) hx hb dX10_isPoint_53 (by decide) (fun c_4 => ?_) (fun c_4 => ?_)
        · replace c_4 := bI_f c_4
          refine lv_iconst (v := 0) hx hb dX10_isPoint_60 (by decide) ?_
          exact pret_z hx hb hr hlocks (by simp [m_isPoint, bI, c_1, c_2, c_3, c_4]) dX10_isPoint_61
        · replace c_4 := bI_t c_4
          refine lv_iconst (v := 1) hx hb dX10_isPoint_56 (by decide) ?_
          refine lv_goto (tgt := 61) hx hb dX10_isPoint_57 (by decide) ?_
          exact pret_z hx hb hr hlocks (by simp [m_isPoint, bI, c_1, c_2, c_3, c_4]) dX10_isPoint_61
theorem dX10_goesRight_0 : decode cX10_goesRight 0 = .ok (.aload_n 0, 1) := by decide +kernel
theorem dX10_goesRight_1 : decode cX10_goesRight 1 = .ok (.getfield 81, 3) := by decide +kernel
theorem dX10_goesRight_4 : decode cX10_goesRight 4 = .ok (.iload_n 3, 1) := by decide +kernel
theorem dX10_goesRight_5 : decode cX10_goesRight 5 = .ok (.iload 4, 2) := by decide +kernel
theorem dX10_goesRight_7 : decode cX10_goesRight 7 = .ok (.iconst 1, 1) := by decide +kernel
theorem dX10_goesRight_8 : decode cX10_goesRight 8 = .ok (.isub, 1) := by decide +kernel
set_option maxRecDepth 20000 in
theorem ggX10_goesRight_X10_isOn : GoodIn wsX10_goesRight wsX10_isOn := goodIn_r _ [5, 6, 7, 4, 8, 9, 10, 11] rfl (by decide +kernel)
set_option maxRecDepth 20000 in
theorem gX10_goesRight_X10_isOn : GoodIn wsX10_goesRight (va_wsS RX10 108 yX10_isOn wsX10_isOn) := goodIn_app (goodIn_r _ [2, 3, 4] rfl (by decide +kernel)) ggX10_goesRight_X10_isOn
theorem dX10_goesRight_9 : decode cX10_goesRight 9 = .ok (.invokestatic 108, 3) := by decide +kernel
theorem dX10_goesRight_12 : decode cX10_goesRight 12 = .ok (.ifCond .ne 16, 3) := by decide +kernel
theorem dX10_goesRight_28 : decode cX10_goesRight 28 = .ok (.lload_n 1, 1) := by decide +kernel
theorem dX10_goesRight_29 : decode cX10_goesRight 29 = .ok (.iload_n 3, 1) := by decide +kernel
theorem dX10_goesRight_30 : decode cX10_goesRight 30 = .ok (.iload 4, 2) := by decide +kernel
theorem dX10_goesRight_32 : decode cX10_goesRight 32 = .ok (.iconst 1, 1) := by decide +kernel
theorem dX10_goesRight_33 : decode cX10_goesRight 33 = .ok (.isub, 1) := by decide +kernel
theorem dX10_goesRight_34 : decode cX10_goesRight 34 = .ok (.invokestatic 108, 3) := by decide +kernel
theorem dX10_goesRight_37 : decode cX10_goesRight 37 = .ok (.ifCond .ne 7, 3) := by decide +kernel
theorem dX10_goesRight_44 : decode cX10_goesRight 44 = .ok (.iconst 0, 1) := by decide +kernel
theorem dX10_goesRight_45 : decode cX10_goesRight 45 = .ok (.ireturn, 1) := by decide +kernel
theorem dX10_goesRight_40 : decode cX10_goesRight 40 = .ok (.iconst 1, 1) := by decide +kernel
theorem dX10_goesRight_41 : decode cX10_goesRight 41 = .ok (.goto 4, 3) := by decide +kernel
theorem dX10_goesRight_15 : decode cX10_goesRight 15 = .ok (.aload_n 0, 1) := by decide +kernel
theorem dX10_goesRight_16 : decode cX10_goesRight 16 = .ok (.getfield 81, 3) := by decide +kernel
theorem dX10_goesRight_19 : decode cX10_goesRight 19 = .ok (.iload_n 3, 1) := by decide +kernel
theorem dX10_goesRight_20 : decode cX10_goesRight 20 = .ok (.iload 4, 2) := by decide +kernel
theorem dX10_goesRight_22 : decode cX10_goesRight 22 = .ok (.invokestatic 108, 3) := by decide +kernel
theorem dX10_goesRight_25 : decode cX10_goesRight 25 = .ok (.ifCond .eq 19, 3) := by decide +kernel
set_option maxRecDepth 20000 in
theorem ihX10_goesRight_10 : ∀ w ∈ u_ws RX10 TX10 30, w ∈ wsX10_goesRight := fun _ h => List.mem_cons_of_mem _ (List.mem_append_right _ h)
set_option maxHeartbeats 4000000 in
set_option maxRecDepth 100000 in
theorem c_X10_goesRight (l : Launch) (D : va_G) (cy : Nat → ClassId) (a : Nat → Nat) (sz : Nat) (J : Nat → Int64) (I : Nat → Int32) (R : Nat → Nat → Int32) (RJ : Nat → Nat → Int64) (x0 : Int64) (x1 : Int32) (x2 : Int32) : Met l yX10_goesRight wsX10_goesRight ({ frames := 2, cells := 0, slots := 0, locals := 45 }) (va_Pc [.ref (a 0), .long x0, .int x1, .int x2] (PW D cy sz (MW cy a J I R RJ))) (vp_Si (fun r => r = bI (m_right (J 0) x0 x1 x2))) 0 0 (fun _ => False) := by
  refine Met.ofW (cc := cX10_goesRight) (maxL := 5) (ret := (some .boolean)) (by decide) rfl ?_
  intro p e s m args below meth c s₁ B hml hv
  obtain ⟨rfl, rfl, hP, hK, hN, hD0⟩ := hv
  have hx := B.exec
  have hb := B.bytes
  have hr := B.returns
  have hts := atoms_spec (ws := wsX10_goesRight) B.pre
  have hown : s.vm.findClass RX10 = some m.cls := findClass_of_methodNamed B.named
  have hlocks := B.notSynchronized
  have hw0 := hts (.fieldLink RX10 81 "ParquetLayerModel" "floor" "J") (by decide +kernel)
  have hi10 := ihX10_goesRight_10
  have hD := hD0
  have hl := lv_entry ([.ref (a 0), .long x0, .int x1, .int x2]) (n := 5) (Nat.le_of_ble_eq_true rfl)
  rw [lg_entry_eq]
  generalize (lg_sl ([.ref (a 0), .long x0, .int x1, .int x2]) ++ List.replicate (5 - (lg_sl ([.ref (a 0), .long x0, .int x1, .int x2])).length) Slot.unset).toArray = ls at hl ⊢
  have hl : lv_has ls 5 [(0, .ref (a 0)), (1, .long x0), (3, .int x1), (4, .int x2)] := hl
  refine lv_aload_n hx hb dX10_goesRight_0 rfl (lv_at hl 0 rfl) ?_
  refine va_get (D := D) (ci := 9) (v := .long (J 0)) (C := RX10) (T := TX10) (N := 30) hx hb hts hi10 hown hK hP 0 rfl rfl 0 (by decide) hw0 (fun _ h9 => h9) rfl dX10_goesRight_1 ?_
  refine lv_iload_n hx hb dX10_goesRight_4 rfl (lv_at hl 2 rfl) ?_
  refine lv_iload hx hb dX10_goesRight_5 (lv_at hl 3 rfl) ?_
  refine lv_iconst (v := 1) hx hb dX10_goesRight_7 (by decide) ?_
  refine lv_isub hx hb dX10_goesRight_8 ?_
  refine kS_i (As := [.long (J 0), .int x1, .int (x2 - 1)]) (rest := []) ⟨hx, hb, hml, hown, hts⟩ (c_X10_isOn l (J 0) x1 (x2 - 1)) (va_cwS 3 hts gX10_goesRight_X10_isOn rfl rfl rfl (by decide +kernel) ⟨Nat.le_of_ble_eq_true rfl, Nat.le_of_ble_eq_true rfl⟩) rfl hl.1 rfl (Nat.le_of_ble_eq_true rfl) dX10_goesRight_9 ⟨Nat.le_of_ble_eq_true rfl, Nat.le_of_ble_eq_true rfl⟩ ?_
  refine lv_if_ne (tgt := 28) hx hb dX10_goesRight_12 (by decide) (fun c_1 => ?_) (fun c_1 => ?_)
  · replace c_1 := bI_t c_1
    refine lv_lload_n hx hb dX10_goesRight_28 rfl (lv_at hl 1 rfl) ?_
    refine lv_iload_n hx hb dX10_goesRight_29 rfl (lv_at hl 2 rfl) ?_
    refine lv_iload hx hb dX10_goesRight_30 (lv_at hl 3 rfl) ?_
    refine lv_iconst (v := 1) hx hb dX10_goesRight_32 (by decide) ?_
    refine lv_isub hx hb dX10_goesRight_33 ?_
    refine kS_i (As := [.long x0, .int x1, .int (x2 - 1)]) (rest := []) ⟨hx, hb, hml, hown, hts⟩ (c_X10_isOn l x0 x1 (x2 - 1)) (va_cwS 3 hts gX10_goesRight_X10_isOn rfl rfl rfl (by decide +kernel) ⟨Nat.le_of_ble_eq_true rfl, Nat.le_of_ble_eq_true rfl⟩) rfl hl.1 rfl (Nat.le_of_ble_eq_true rfl) dX10_goesRight_34 ⟨Nat.le_of_ble_eq_true rfl, Nat.le_of_ble_eq_true rfl⟩ ?_
    refine lv_if_ne (tgt := 44) hx hb dX10_goesRight_37 (by decide) (fun c_2 => ?_) (fun c_2 => ?_)
    · replace c_2 := bI_t c_2
      refine lv_iconst (v := 0) hx hb dX10_goesRight_44 (by decide) ?_
      exact pret_z hx hb hr hlocks (by simp [m_right, bI, c_1, c_2]) dX10_goesRight_45
    · replace c_2 := bI_f c_2
      refine lv_iconst (v := 1) hx hb dX10_goesRight_40 (by decide) ?_
      refine lv_goto (tgt := 45) hx hb dX10_goesRight_41 (by decide) ?_
      exact pret_z hx hb hr hlocks (by simp [m_right, bI, c_1, c_2]) dX10_goesRight_45
  · replace c_1 := bI_f c_1
    refine lv_aload_n hx hb dX10_goesRight_15 rfl (lv_at hl 0 rfl) ?_
    refine va_get (D := D) (ci := 9) (v := .long (J 0)) (C := RX10) (T := TX10) (N := 30) hx hb hts hi10 hown hK hP 0 rfl rfl 0 (by decide) hw0 (fun _ h9 => h9) rfl dX10_goesRight_16 ?_
    refine lv_iload_n hx hb dX10_goesRight_19 rfl (lv_at hl 2 rfl) ?_
    refine lv_iload hx hb dX10_goesRight_20 (lv_at hl 3 rfl) ?_
    refine kS_i (As := [.long (J 0), .int x1, .int x2]) (rest := []) ⟨hx, hb, hml, hown, hts⟩ (c_X10_isOn l (J 0) x1 x2) (va_cwS 3 hts gX10_goesRight_X10_isOn rfl rfl rfl (by decide +kernel) ⟨Nat.le_of_ble_eq_true rfl, Nat.le_of_ble_eq_true rfl⟩) rfl hl.1 rfl (Nat.le_of_ble_eq_true rfl) dX10_goesRight_22 ⟨Nat.le_of_ble_eq_true rfl, Nat.le_of_ble_eq_true rfl⟩ ?_
    refine lv_if_eq (tgt := 44) hx hb dX10_goesRight_25 (by decide) (fun c_3 => ?_) (fun c_3 => ?_)
    · replace c_3 := bI_f c_3
      refine lv_iconst (v := 0) hx hb dX10_goesRight_44 (by decide) ?_
      exact pret_z hx hb hr hlocks (by simp [m_right, bI, c_1, c_3]) dX10_goesRight_45
    · replace c_3 := bI_t c_3
      refine lv_lload_n hx hb dX10_goesRight_28 rfl (lv_at hl 1 rfl) ?_
      refine lv_iload_n hx hb dX10_goesRight_29 rfl (lv_at hl 2 rfl) ?_
      refine lv_iload hx hb dX10_goesRight_30 (lv_at hl 3 rfl) ?_
      refine lv_iconst (v := 1) hx hb dX10_goesRight_32 (by decide) ?_
      refine lv_isub hx hb dX10_goesRight_33 ?_
      refine kS_i (As := [.long x0, .int x1, .int (x2 - 1)]) (rest := []) ⟨hx, hb, hml, hown, hts⟩ (c_X10_isOn l x0 x1 (x2 - 1)) (va_cwS 3 hts gX10_goesRight_X10_isOn rfl rfl rfl (by decide +kernel) ⟨Nat.le_of_ble_eq_true rfl, Nat.le_of_ble_eq_true rfl⟩) rfl hl.1 rfl (Nat.le_of_ble_eq_true rfl) dX10_goesRight_34 ⟨Nat.le_of_ble_eq_true rfl, Nat.le_of_ble_eq_true rfl⟩ ?_
      refine lv_if_ne (tgt := 44) hx hb dX10_goesRight_37 (by decide) (fun c_4 => ?_) (fun c_4 => ?_)
      · replace c_4 := bI_t c_4
        refine lv_iconst (v := 0) hx hb dX10_goesRight_44 (by decide) ?_
        exact pret_z hx hb hr hlocks (by simp [m_right, bI, c_1, c_3, c_4]) dX10_goesRight_45
      · replace c_4 := bI_f c_4
        refine lv_iconst (v := 1) hx hb dX10_goesRight_40 (by decide) ?_
        refine lv_goto (tgt := 45) hx hb dX10_goesRight_41 (by decide) ?_
        exact pret_z hx hb hr hlocks (by simp [m_right, bI, c_1, c_3, c_4]) dX10_goesRight_45
theorem dX10_goesDown_0 : decode cX10_goesDown 0 = .ok (.aload_n 0, 1) := by decide +kernel
theorem dX10_goesDown_1 : decode cX10_goesDown 1 = .ok (.getfield 81, 3) := by decide +kernel
theorem dX10_goesDown_4 : decode cX10_goesDown 4 = .ok (.iload_n 3, 1) := by decide +kernel
theorem dX10_goesDown_5 : decode cX10_goesDown 5 = .ok (.iconst 1, 1) := by decide +kernel
theorem dX10_goesDown_6 : decode cX10_goesDown 6 = .ok (.isub, 1) := by decide +kernel
theorem dX10_goesDown_7 : decode cX10_goesDown 7 = .ok (.iload 4, 2) := by decide +kernel
set_option maxRecDepth 20000 in
theorem ggX10_goesDown_X10_isOn : GoodIn wsX10_goesDown wsX10_isOn := goodIn_r _ [5, 6, 7, 4, 8, 9, 10, 11] rfl (by decide +kernel)
set_option maxRecDepth 20000 in
theorem gX10_goesDown_X10_isOn : GoodIn wsX10_goesDown (va_wsS RX10 108 yX10_isOn wsX10_isOn) := goodIn_app (goodIn_r _ [2, 3, 4] rfl (by decide +kernel)) ggX10_goesDown_X10_isOn
theorem dX10_goesDown_9 : decode cX10_goesDown 9 = .ok (.invokestatic 108, 3) := by decide +kernel
theorem dX10_goesDown_12 : decode cX10_goesDown 12 = .ok (.ifCond .ne 16, 3) := by decide +kernel
theorem dX10_goesDown_28 : decode cX10_goesDown 28 = .ok (.lload_n 1, 1) := by decide +kernel
theorem dX10_goesDown_29 : decode cX10_goesDown 29 = .ok (.iload_n 3, 1) := by decide +kernel
theorem dX10_goesDown_30 : decode cX10_goesDown 30 = .ok (.iconst 1, 1) := by decide +kernel
theorem dX10_goesDown_31 : decode cX10_goesDown 31 = .ok (.isub, 1) := by decide +kernel
theorem dX10_goesDown_32 : decode cX10_goesDown 32 = .ok (.iload 4, 2) := by decide +kernel
theorem dX10_goesDown_34 : decode cX10_goesDown 34 = .ok (.invokestatic 108, 3) := by decide +kernel
theorem dX10_goesDown_37 : decode cX10_goesDown 37 = .ok (.ifCond .ne 7, 3) := by decide +kernel
theorem dX10_goesDown_44 : decode cX10_goesDown 44 = .ok (.iconst 0, 1) := by decide +kernel
theorem dX10_goesDown_45 : decode cX10_goesDown 45 = .ok (.ireturn, 1) := by decide +kernel
theorem dX10_goesDown_40 : decode cX10_goesDown 40 = .ok (.iconst 1, 1) := by decide +kernel
theorem dX10_goesDown_41 : decode cX10_goesDown 41 = .ok (.goto 4, 3) := by decide +kernel
theorem dX10_goesDown_15 : decode cX10_goesDown 15 = .ok (.aload_n 0, 1) := by decide +kernel
theorem dX10_goesDown_16 : decode cX10_goesDown 16 = .ok (.getfield 81, 3) := by decide +kernel
theorem dX10_goesDown_19 : decode cX10_goesDown 19 = .ok (.iload_n 3, 1) := by decide +kernel
theorem dX10_goesDown_20 : decode cX10_goesDown 20 = .ok (.iload 4, 2) := by decide +kernel
theorem dX10_goesDown_22 : decode cX10_goesDown 22 = .ok (.invokestatic 108, 3) := by decide +kernel
theorem dX10_goesDown_25 : decode cX10_goesDown 25 = .ok (.ifCond .eq 19, 3) := by decide +kernel
set_option maxRecDepth 20000 in
theorem ihX10_goesDown_10 : ∀ w ∈ u_ws RX10 TX10 30, w ∈ wsX10_goesDown := fun _ h => List.mem_cons_of_mem _ (List.mem_append_right _ h)
set_option maxHeartbeats 4000000 in
set_option maxRecDepth 100000 in
theorem c_X10_goesDown (l : Launch) (D : va_G) (cy : Nat → ClassId) (a : Nat → Nat) (sz : Nat) (J : Nat → Int64) (I : Nat → Int32) (R : Nat → Nat → Int32) (RJ : Nat → Nat → Int64) (x0 : Int64) (x1 : Int32) (x2 : Int32) : Met l yX10_goesDown wsX10_goesDown ({ frames := 2, cells := 0, slots := 0, locals := 45 }) (va_Pc [.ref (a 0), .long x0, .int x1, .int x2] (PW D cy sz (MW cy a J I R RJ))) (vp_Si (fun r => r = bI (m_down (J 0) x0 x1 x2))) 0 0 (fun _ => False) := by
  refine Met.ofW (cc := cX10_goesDown) (maxL := 5) (ret := (some .boolean)) (by decide) rfl ?_
  intro p e s m args below meth c s₁ B hml hv
  obtain ⟨rfl, rfl, hP, hK, hN, hD0⟩ := hv
  have hx := B.exec
  have hb := B.bytes
  have hr := B.returns
  have hts := atoms_spec (ws := wsX10_goesDown) B.pre
  have hown : s.vm.findClass RX10 = some m.cls := findClass_of_methodNamed B.named
  have hlocks := B.notSynchronized
  have hw0 := hts (.fieldLink RX10 81 "ParquetLayerModel" "floor" "J") (by decide +kernel)
  have hi10 := ihX10_goesDown_10
  have hD := hD0
  have hl := lv_entry ([.ref (a 0), .long x0, .int x1, .int x2]) (n := 5) (Nat.le_of_ble_eq_true rfl)
  rw [lg_entry_eq]
  generalize (lg_sl ([.ref (a 0), .long x0, .int x1, .int x2]) ++ List.replicate (5 - (lg_sl ([.ref (a 0), .long x0, .int x1, .int x2])).length) Slot.unset).toArray = ls at hl ⊢
  have hl : lv_has ls 5 [(0, .ref (a 0)), (1, .long x0), (3, .int x1), (4, .int x2)] := hl
  refine lv_aload_n hx hb dX10_goesDown_0 rfl (lv_at hl 0 rfl) ?_
  refine va_get (D := D) (ci := 9) (v := .long (J 0)) (C := RX10) (T := TX10) (N := 30) hx hb hts hi10 hown hK hP 0 rfl rfl 0 (by decide) hw0 (fun _ h9 => h9) rfl dX10_goesDown_1 ?_
  refine lv_iload_n hx hb dX10_goesDown_4 rfl (lv_at hl 2 rfl) ?_
  refine lv_iconst (v := 1) hx hb dX10_goesDown_5 (by decide) ?_
  refine lv_isub hx hb dX10_goesDown_6 ?_
  refine lv_iload hx hb dX10_goesDown_7 (lv_at hl 3 rfl) ?_
  refine kS_i (As := [.long (J 0), .int (x1 - 1), .int x2]) (rest := []) ⟨hx, hb, hml, hown, hts⟩ (c_X10_isOn l (J 0) (x1 - 1) x2) (va_cwS 3 hts gX10_goesDown_X10_isOn rfl rfl rfl (by decide +kernel) ⟨Nat.le_of_ble_eq_true rfl, Nat.le_of_ble_eq_true rfl⟩) rfl hl.1 rfl (Nat.le_of_ble_eq_true rfl) dX10_goesDown_9 ⟨Nat.le_of_ble_eq_true rfl, Nat.le_of_ble_eq_true rfl⟩ ?_
  refine lv_if_ne (tgt := 28) hx hb dX10_goesDown_12 (by decide) (fun c_1 => ?_) (fun c_1 => ?_)
  · replace c_1 := bI_t c_1
    refine lv_lload_n hx hb dX10_goesDown_28 rfl (lv_at hl 1 rfl) ?_
    refine lv_iload_n hx hb dX10_goesDown_29 rfl (lv_at hl 2 rfl) ?_
    refine lv_iconst (v := 1) hx hb dX10_goesDown_30 (by decide) ?_
    refine lv_isub hx hb dX10_goesDown_31 ?_
    refine lv_iload hx hb dX10_goesDown_32 (lv_at hl 3 rfl) ?_
    refine kS_i (As := [.long x0, .int (x1 - 1), .int x2]) (rest := []) ⟨hx, hb, hml, hown, hts⟩ (c_X10_isOn l x0 (x1 - 1) x2) (va_cwS 3 hts gX10_goesDown_X10_isOn rfl rfl rfl (by decide +kernel) ⟨Nat.le_of_ble_eq_true rfl, Nat.le_of_ble_eq_true rfl⟩) rfl hl.1 rfl (Nat.le_of_ble_eq_true rfl) dX10_goesDown_34 ⟨Nat.le_of_ble_eq_true rfl, Nat.le_of_ble_eq_true rfl⟩ ?_
    refine lv_if_ne (tgt := 44) hx hb dX10_goesDown_37 (by decide) (fun c_2 => ?_) (fun c_2 => ?_)
    · replace c_2 := bI_t c_2
      refine lv_iconst (v := 0) hx hb dX10_goesDown_44 (by decide) ?_
      exact pret_z hx hb hr hlocks (by simp [m_down, bI, c_1, c_2]) dX10_goesDown_45
    · replace c_2 := bI_f c_2
      refine lv_iconst (v := 1) hx hb dX10_goesDown_40 (by decide) ?_
      refine lv_goto (tgt := 45) hx hb dX10_goesDown_41 (by decide) ?_
      exact pret_z hx hb hr hlocks (by simp [m_down, bI, c_1, c_2]) dX10_goesDown_45
  · replace c_1 := bI_f c_1
    refine lv_aload_n hx hb dX10_goesDown_15 rfl (lv_at hl 0 rfl) ?_
    refine va_get (D := D) (ci := 9) (v := .long (J 0)) (C := RX10) (T := TX10) (N := 30) hx hb hts hi10 hown hK hP 0 rfl rfl 0 (by decide) hw0 (fun _ h9 => h9) rfl dX10_goesDown_16 ?_
    refine lv_iload_n hx hb dX10_goesDown_19 rfl (lv_at hl 2 rfl) ?_
    refine lv_iload hx hb dX10_goesDown_20 (lv_at hl 3 rfl) ?_
    refine kS_i (As := [.long (J 0), .int x1, .int x2]) (rest := []) ⟨hx, hb, hml, hown, hts⟩ (c_X10_isOn l (J 0) x1 x2) (va_cwS 3 hts gX10_goesDown_X10_isOn rfl rfl rfl (by decide +kernel) ⟨Nat.le_of_ble_eq_true rfl, Nat.le_of_ble_eq_true rfl⟩) rfl hl.1 rfl (Nat.le_of_ble_eq_true rfl) dX10_goesDown_22 ⟨Nat.le_of_ble_eq_true rfl, Nat.le_of_ble_eq_true rfl⟩ ?_
    refine lv_if_eq (tgt := 44) hx hb dX10_goesDown_25 (by decide) (fun c_3 => ?_) (fun c_3 => ?_)
    · replace c_3 := bI_f c_3
      refine lv_iconst (v := 0) hx hb dX10_goesDown_44 (by decide) ?_
      exact pret_z hx hb hr hlocks (by simp [m_down, bI, c_1, c_3]) dX10_goesDown_45
    · replace c_3 := bI_t c_3
      refine lv_lload_n hx hb dX10_goesDown_28 rfl (lv_at hl 1 rfl) ?_
      refine lv_iload_n hx hb dX10_goesDown_29 rfl (lv_at hl 2 rfl) ?_
      refine lv_iconst (v := 1) hx hb dX10_goesDown_30 (by decide) ?_
      refine lv_isub hx hb dX10_goesDown_31 ?_
      refine lv_iload hx hb dX10_goesDown_32 (lv_at hl 3 rfl) ?_
      refine kS_i (As := [.long x0, .int (x1 - 1), .int x2]) (rest := []) ⟨hx, hb, hml, hown, hts⟩ (c_X10_isOn l x0 (x1 - 1) x2) (va_cwS 3 hts gX10_goesDown_X10_isOn rfl rfl rfl (by decide +kernel) ⟨Nat.le_of_ble_eq_true rfl, Nat.le_of_ble_eq_true rfl⟩) rfl hl.1 rfl (Nat.le_of_ble_eq_true rfl) dX10_goesDown_34 ⟨Nat.le_of_ble_eq_true rfl, Nat.le_of_ble_eq_true rfl⟩ ?_
      refine lv_if_ne (tgt := 44) hx hb dX10_goesDown_37 (by decide) (fun c_4 => ?_) (fun c_4 => ?_)
      · replace c_4 := bI_t c_4
        refine lv_iconst (v := 0) hx hb dX10_goesDown_44 (by decide) ?_
        exact pret_z hx hb hr hlocks (by simp [m_down, bI, c_1, c_3, c_4]) dX10_goesDown_45
      · replace c_4 := bI_f c_4
        refine lv_iconst (v := 1) hx hb dX10_goesDown_40 (by decide) ?_
        refine lv_goto (tgt := 45) hx hb dX10_goesDown_41 (by decide) ?_
        exact pret_z hx hb hr hlocks (by simp [m_down, bI, c_1, c_3, c_4]) dX10_goesDown_45
theorem dX10_isDarkField_0 : decode cX10_isDarkField 0 = .ok (.aload_n 0, 1) := by decide +kernel
theorem dX10_isDarkField_1 : decode cX10_isDarkField 1 = .ok (.getfield 81, 3) := by decide +kernel
theorem dX10_isDarkField_4 : decode cX10_isDarkField 4 = .ok (.iload_n 1, 1) := by decide +kernel
set_option maxRecDepth 20000 in
theorem ggX10_isDarkField_X10_hasBit : GoodIn wsX10_isDarkField wsX10_hasBit := goodIn_r _ [5] rfl (by decide +kernel)
set_option maxRecDepth 20000 in
theorem gX10_isDarkField_X10_hasBit : GoodIn wsX10_isDarkField (va_wsS RX10 74 yX10_hasBit wsX10_hasBit) := goodIn_app (goodIn_r _ [2, 3, 4] rfl (by decide +kernel)) ggX10_isDarkField_X10_hasBit
theorem dX10_isDarkField_5 : decode cX10_isDarkField 5 = .ok (.invokestatic 74, 3) := by decide +kernel
theorem dX10_isDarkField_8 : decode cX10_isDarkField 8 = .ok (.ifCond .eq 21, 3) := by decide +kernel
theorem dX10_isDarkField_29 : decode cX10_isDarkField 29 = .ok (.iconst 0, 1) := by decide +kernel
theorem dX10_isDarkField_30 : decode cX10_isDarkField 30 = .ok (.ireturn, 1) := by decide +kernel
theorem dX10_isDarkField_11 : decode cX10_isDarkField 11 = .ok (.iload_n 1, 1) := by decide +kernel
theorem dX10_isDarkField_12 : decode cX10_isDarkField 12 = .ok (.bipush 8, 2) := by decide +kernel
theorem dX10_isDarkField_14 : decode cX10_isDarkField 14 = .ok (.irem, 1) := by decide +kernel
theorem dX10_isDarkField_15 : decode cX10_isDarkField 15 = .ok (.iload_n 1, 1) := by decide +kernel
theorem dX10_isDarkField_16 : decode cX10_isDarkField 16 = .ok (.bipush 8, 2) := by decide +kernel
theorem dX10_isDarkField_18 : decode cX10_isDarkField 18 = .ok (.idiv, 1) := by decide +kernel
set_option maxRecDepth 20000 in
theorem ggX10_isDarkField_X10_isDark : GoodIn wsX10_isDarkField wsX10_isDark := goodIn_r _ [8] rfl (by decide +kernel)
set_option maxRecDepth 20000 in
theorem gX10_isDarkField_X10_isDark : GoodIn wsX10_isDarkField (va_wsS RX10 168 yX10_isDark wsX10_isDark) := goodIn_app (goodIn_r _ [6, 7, 4] rfl (by decide +kernel)) ggX10_isDarkField_X10_isDark
theorem dX10_isDarkField_19 : decode cX10_isDarkField 19 = .ok (.invokestatic 168, 3) := by decide +kernel
theorem dX10_isDarkField_22 : decode cX10_isDarkField 22 = .ok (.ifCond .eq 7, 3) := by decide +kernel
theorem dX10_isDarkField_25 : decode cX10_isDarkField 25 = .ok (.iconst 1, 1) := by decide +kernel
theorem dX10_isDarkField_26 : decode cX10_isDarkField 26 = .ok (.goto 4, 3) := by decide +kernel
set_option maxRecDepth 20000 in
theorem ihX10_isDarkField_10 : ∀ w ∈ u_ws RX10 TX10 30, w ∈ wsX10_isDarkField := fun _ h => List.mem_cons_of_mem _ (List.mem_append_right _ h)
set_option maxHeartbeats 4000000 in
set_option maxRecDepth 100000 in
theorem c_X10_isDarkField (l : Launch) (D : va_G) (cy : Nat → ClassId) (a : Nat → Nat) (sz : Nat) (J : Nat → Int64) (I : Nat → Int32) (R : Nat → Nat → Int32) (RJ : Nat → Nat → Int64) (x0 : Int32) : Met l yX10_isDarkField wsX10_isDarkField ({ frames := 1, cells := 0, slots := 0, locals := 22 }) (va_Pc [.ref (a 0), .int x0] (PW D cy sz (MW cy a J I R RJ))) (vp_Si (fun r => r = bI (m_darkF (J 0) x0))) 0 0 (fun _ => False) := by
  refine Met.ofW (cc := cX10_isDarkField) (maxL := 2) (ret := (some .boolean)) (by decide) rfl ?_
  intro p e s m args below meth c s₁ B hml hv
  obtain ⟨rfl, rfl, hP, hK, hN, hD0⟩ := hv
  have hx := B.exec
  have hb := B.bytes
  have hr := B.returns
  have hts := atoms_spec (ws := wsX10_isDarkField) B.pre
  have hown : s.vm.findClass RX10 = some m.cls := findClass_of_methodNamed B.named
  have hlocks := B.notSynchronized
  have hw0 := hts (.fieldLink RX10 81 "ParquetLayerModel" "floor" "J") (by decide +kernel)
  have hi10 := ihX10_isDarkField_10
  have hD := hD0
  have hl := lv_entry ([.ref (a 0), .int x0]) (n := 2) (Nat.le_of_ble_eq_true rfl)
  rw [lg_entry_eq]
  generalize (lg_sl ([.ref (a 0), .int x0]) ++ List.replicate (2 - (lg_sl ([.ref (a 0), .int x0])).length) Slot.unset).toArray = ls at hl ⊢
  have hl : lv_has ls 2 [(0, .ref (a 0)), (1, .int x0)] := hl
  refine lv_aload_n hx hb dX10_isDarkField_0 rfl (lv_at hl 0 rfl) ?_
  refine va_get (D := D) (ci := 9) (v := .long (J 0)) (C := RX10) (T := TX10) (N := 30) hx hb hts hi10 hown hK hP 0 rfl rfl 0 (by decide) hw0 (fun _ h9 => h9) rfl dX10_isDarkField_1 ?_
  refine lv_iload_n hx hb dX10_isDarkField_4 rfl (lv_at hl 1 rfl) ?_
  refine kS_i (As := [.long (J 0), .int x0]) (rest := []) ⟨hx, hb, hml, hown, hts⟩ (c_X10_hasBit l (J 0) x0) (va_cwS 2 hts gX10_isDarkField_X10_hasBit rfl rfl rfl (by decide +kernel) ⟨Nat.le_of_ble_eq_true rfl, Nat.le_of_ble_eq_true rfl⟩) rfl hl.1 rfl (Nat.le_of_ble_eq_true rfl) dX10_isDarkField_5 ⟨Nat.le_of_ble_eq_true rfl, Nat.le_of_ble_eq_true rfl⟩ ?_
  refine lv_if_eq (tgt := 29) hx hb dX10_isDarkField_8 (by decide) (fun c_1 => ?_) (fun c_1 => ?_)
  · replace c_1 := bI_f c_1
    refine lv_iconst (v := 0) hx hb dX10_isDarkField_29 (by decide) ?_
    exact pret_z hx hb hr hlocks (by simp [m_darkF, bI, c_1]) dX10_isDarkField_30
  · replace c_1 := bI_t c_1
    refine lv_iload_n hx hb dX10_isDarkField_11 rfl (lv_at hl 1 rfl) ?_
    refine lv_bipush (v := 8) hx hb dX10_isDarkField_12 (by decide) ?_
    refine lv_irem hx hb dX10_isDarkField_14 (by decide) ?_
    refine lv_iload_n hx hb dX10_isDarkField_15 rfl (lv_at hl 1 rfl) ?_
    refine lv_bipush (v := 8) hx hb dX10_isDarkField_16 (by decide) ?_
    refine lv_idiv hx hb dX10_isDarkField_18 (by decide) ?_
    refine kS_i (As := [.int (x0 - x0 / 8 * 8), .int (x0 / 8)]) (rest := []) ⟨hx, hb, hml, hown, hts⟩ (c_X10_isDark l (x0 - x0 / 8 * 8) (x0 / 8)) (va_cwS 2 hts gX10_isDarkField_X10_isDark rfl rfl rfl (by decide +kernel) ⟨Nat.le_of_ble_eq_true rfl, Nat.le_of_ble_eq_true rfl⟩) rfl hl.1 rfl (Nat.le_of_ble_eq_true rfl) dX10_isDarkField_19 ⟨Nat.le_of_ble_eq_true rfl, Nat.le_of_ble_eq_true rfl⟩ ?_
    refine lv_if_eq (tgt := 29) hx hb dX10_isDarkField_22 (by decide) (fun c_2 => ?_) (fun c_2 => ?_)
    · replace c_2 := bI_f c_2
      refine lv_iconst (v := 0) hx hb dX10_isDarkField_29 (by decide) ?_
      exact pret_z hx hb hr hlocks (by simp [m_darkF, bI, c_1, c_2]) dX10_isDarkField_30
    · replace c_2 := bI_t c_2
      refine lv_iconst (v := 1) hx hb dX10_isDarkField_25 (by decide) ?_
      refine lv_goto (tgt := 30) hx hb dX10_isDarkField_26 (by decide) ?_
      exact pret_z hx hb hr hlocks (by simp [m_darkF, bI, c_1, c_2]) dX10_isDarkField_30
