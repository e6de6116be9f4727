abbrev CL (cy : Nat → ClassId) (a : Nat → Nat) (J : Nat → Int64) (I : Nat → Int32) (O : Nat → Option Nat) (R : Nat → Nat → Int32) (RO : Nat → Nat → Option Nat) : va_W := [(a 0, .inr (8, [.ref (a 1), .ref (a 2), .ref (a 3), .ref (a 7), .ref (a 8), va_rf (O 5), .long (J 6), va_rf (O 7), va_rf (O 8), .int (I 9), .int (I 10)])), (a 1, .inl (cy 4, 4, .inr (.inr (.inr (.inr (RO 1)))))), (a 2, .inl (cy 3, 20, .inr (.inr (.inr (.inr (RO 2)))))), (a 3, .inr (1, [.ref (a 4), .ref (a 5), .ref (a 6), .int (I 99), va_rf (O 100)])), (a 4, .inl (cy 0, 81, .inl (R 4))), (a 5, .inl (cy 0, 81, .inl (R 5))), (a 6, .inl (cy 0, 81, .inl (R 6))), (a 7, .inr (7, [.long (J 224), .long (J 225)])), (a 8, .inr (0, [.ref (a 9), .ref (a 10), .ref (a 11), .int (I 259), .long (J 260), .long (J 261), .long (J 262)])), (a 9, .inl (cy 0, 64, .inl (R 9))), (a 10, .inl (cy 0, 64, .inl (R 10))), (a 11, .inl (cy 0, 64, .inl (R 11))), (a 12, .inr (5, [.ref (a 13), .int (I 385), .int (I 386)])), (a 13, .inl (cy 0, 16, .inl (R 13))), (a 14, .inr (5, [.ref (a 15), .int (I 449), .int (I 450)])), (a 15, .inl (cy 0, 16, .inl (R 15))), (a 16, .inr (5, [.ref (a 17), .int (I 513), .int (I 514)])), (a 17, .inl (cy 0, 16, .inl (R 17))), (a 18, .inr (5, [.ref (a 19), .int (I 577), .int (I 578)])), (a 19, .inl (cy 0, 16, .inl (R 19))), (a 20, .inr (3, [.ref (a 21), .ref (a 22), .long (J 642), .int (I 643)])), (a 21, .inl (cy 0, 16640, .inl (R 21))), (a 22, .inl (cy 0, 512, .inl (R 22)))]

abbrev CLu (cy : Nat → ClassId) (a : Nat → Nat) (u : CS) : va_W := CL cy a u.1 u.2.1 u.2.2.1 u.2.2.2.1 u.2.2.2.2
theorem in4 {x : Int32} (h : vp_in x 4) : x = 0 ∨ x = 1 ∨ x = 2 ∨ x = 3 := by
  obtain ⟨j, hj, rfl⟩ := vp_in_of h (by decide)
  rcases (show j = 0 ∨ j = 1 ∨ j = 2 ∨ j = 3 by omega) with rfl | rfl | rfl | rfl
  · exact Or.inl rfl
  · exact Or.inr (Or.inl rfl)
  · exact Or.inr (Or.inr (Or.inl rfl))
  · exact Or.inr (Or.inr (Or.inr rfl))
theorem i32_rng (x : Int32) : -2147483648 ≤ x.toInt ∧ x.toInt < 2147483648 := ⟨Int32.le_toInt x, Int32.toInt_lt x⟩
theorem within_iff {x lo hi : Int32} : m_within x lo hi = true ↔ lo.toInt ≤ x.toInt ∧ x.toInt ≤ hi.toInt := by
  simp [m_within, Int32.lt_iff_toInt_lt]
theorem bool_ext {a b : Bool} (h : a = true ↔ b = true) : a = b := by cases a <;> cases b <;> simp_all
theorem g_isField_eq (f : Int32) : g_isField f = m_within f 0 63 := by
  apply bool_ext
  rw [within_iff]
  simp [g_isField, Int32.lt_iff_toInt_lt]
  have h1 : (64 : Int32).toInt = 64 := rfl
  have h2 : (63 : Int32).toInt = 63 := rfl
  omega
theorem g_isKind_eq (f : Int32) : g_isKind f = m_within f 0 3 := by
  apply bool_ext
  rw [within_iff]
  simp [g_isKind, Int32.lt_iff_toInt_lt]
  have h1 : (4 : Int32).toInt = 4 := rfl
  have h2 : (3 : Int32).toInt = 3 := rfl
  omega
theorem w3_t {x : Int32} (h0 : ¬ x < 0) (h1 : ¬ (4 : Int32) ≤ x) : m_within x 0 3 = true := by
  rw [within_iff]
  rw [Int32.lt_iff_toInt_lt] at h0
  rw [Int32.le_iff_toInt_le] at h1
  have e1 : (4 : Int32).toInt = 4 := rfl
  have e2 : (3 : Int32).toInt = 3 := rfl
  omega
theorem w3_lo {x : Int32} (h0 : x < 0) : m_within x 0 3 = false := by simp [m_within, h0]
theorem w3_hi {x : Int32} (h1 : (4 : Int32) ≤ x) : m_within x 0 3 = false := by
  cases h : m_within x 0 3
  · rfl
  · rw [within_iff] at h
    rw [Int32.le_iff_toInt_le] at h1
    have e1 : (4 : Int32).toInt = 4 := rfl
    have e2 : (3 : Int32).toInt = 3 := rfl
    omega
theorem w3_out {x : Int32} (h0 : ¬ x = 0) (h1 : ¬ x = 1) (h2 : ¬ x = 2) (h3 : ¬ x = 3) : m_within x 0 3 = false := by
  cases h : m_within x 0 3
  · rfl
  · rcases in4 (within_in4 h) with r | r | r | r
    · exact absurd r h0
    · exact absurd r h1
    · exact absurd r h2
    · exact absurd r h3
theorem corner_tab : ∀ f : Fin 64, g_isCorner (nI f.val) = (!decide (6 < nI f.val - nI f.val / 8 * 8) && decide (nI f.val / 8 ≤ 6)) := by decide +kernel
theorem corner_eq (f : Int32) : g_isCorner f = (m_within f 0 63 && (!decide (6 < f - f / 8 * 8) && decide (f / 8 ≤ 6))) := by
  cases h : m_within f 0 63
  · cases h2 : g_isCorner f
    · rfl
    · exfalso
      have h3 : m_within f 0 63 = true := by
        rw [within_iff]
        simp [g_isCorner, Int32.lt_iff_toInt_lt] at h2
        have e0 : (0 : Int32).toInt = 0 := rfl
        have e1 : (55 : Int32).toInt = 55 := rfl
        have e2 : (63 : Int32).toInt = 63 := rfl
        omega
      rw [h3] at h
      cases h
  · obtain ⟨j, hj, rfl⟩ := vp_in_of (within_in64 h) (by decide)
    rw [Bool.true_and]
    exact corner_tab ⟨j, hj⟩
theorem row_no {y b : Int32} (h : y < 0 ∨ (7 : Int32) < y ∨ b < 0 ∨ ¬ b ≤ (255 : Int32)) : a_row y b = (-100001) := by
  have e : (m_within y 0 7 && m_within b 0 255) = false := by
    rcases h with h | h | h | h
    · simp [m_within, h]
    · simp [m_within, h]
    · simp [m_within, h]
    · simp [m_within, Int32.not_le.mp h]
  rw [a_row, e]
  rfl
theorem lay_no1 {x : Int32} (h : x < 0) : ¬ x = 0 := by
  rintro rfl
  exact absurd h (by decide)
theorem lay_no2 {x : Int32} (h : (1 : Int32) ≤ x) : ¬ x = 0 := by
  rintro rfl
  exact absurd h (by decide)
theorem i32_01' {x : Int32} (h0 : ¬ x < 0) (h1 : ¬ (1 : Int32) ≤ x) : x = 0 := i32_01 h0 (Int32.not_le.mp h1)
theorem dX9_gluedFields_0 : decode cX9_gluedFields 0 = .ok (.lconst 0, 1) := by decide +kernel
theorem dX9_gluedFields_1 : decode cX9_gluedFields 1 = .ok (.lstore_n 1, 1) := by decide +kernel
theorem dX9_gluedFields_2 : decode cX9_gluedFields 2 = .ok (.aload_n 0, 1) := by decide +kernel
theorem dX9_gluedFields_3 : decode cX9_gluedFields 3 = .ok (.getfield 106, 3) := by decide +kernel
theorem dX9_gluedFields_6 : decode cX9_gluedFields 6 = .ok (.astore_n 3, 1) := by decide +kernel
theorem dX9_gluedFields_7 : decode cX9_gluedFields 7 = .ok (.aload_n 3, 1) := by decide +kernel
theorem dX9_gluedFields_8 : decode cX9_gluedFields 8 = .ok (.ifnull 25, 3) := by decide +kernel
theorem dX9_gluedFields_33 : decode cX9_gluedFields 33 = .ok (.lload_n 1, 1) := by decide +kernel
theorem dX9_gluedFields_34 : decode cX9_gluedFields 34 = .ok (.lreturn, 1) := by decide +kernel
set_option maxRecDepth 20000 in
theorem ihX9_gluedFields_9 : ∀ w ∈ u_ws RX9 TX9 11, w ∈ wsX9_gluedFields := by decide +kernel
set_option maxHeartbeats 4000000 in
set_option maxRecDepth 100000 in
theorem c_X9_gluedFieldsC (l : Launch) (D : va_G) (cy : Nat → ClassId) (a : Nat → Nat) (sz : Nat) (I : Nat → Int32) (R : Nat → Nat → Int32) (RO : Nat → Nat → Option Nat)  : Met l yX9_gluedFields wsX9_gluedFields ({ frames := 0, cells := 0, slots := 0, locals := 0 }) (va_Pc [.ref (a 0)] (PW D cy sz (CW cy a (fun _ => 0) I (va_up (fun _ => none) 100 (some (a 4))) R RO))) (vp_Sl (fun r => r = 0)) 0 0 (fun _ => False) := by
  refine Met.ofW (cc := cX9_gluedFields) (maxL := 4) (ret := (some .long)) (by decide) rfl ?_
  intro p e s m args below meth c s₁ B hml hv
  obtain ⟨rfl, rfl, hP, hK, hN, hD0⟩ := hv
  have hx := B.exec
  have hb := B.bytes
  have hr := B.returns
  have hts := atoms_spec (ws := wsX9_gluedFields) B.pre
  have hown : s.vm.findClass RX9 = some m.cls := findClass_of_methodNamed B.named
  have hlocks := B.notSynchronized
  have hw0 := hts (.fieldLink RX9 106 "ParquetLayer" "latest" "LParquetLayer$Stone;") (by decide +kernel)
  have hi9 := ihX9_gluedFields_9
  have hD := hD0
  have hl := lv_entry ([.ref (a 0)]) (n := 4) (Nat.le_of_ble_eq_true rfl)
  rw [lg_entry_eq]
  generalize (lg_sl ([.ref (a 0)]) ++ List.replicate (4 - (lg_sl ([.ref (a 0)])).length) Slot.unset).toArray = ls at hl ⊢
  have hl : lv_has ls 4 [(0, .ref (a 0))] := hl
  refine lv_lconst (v := 0) hx hb dX9_gluedFields_0 (by decide) ?_
  refine lv_lstore_n (lv' := [(1, .long 0), (0, .ref (a 0))]) hx hb dX9_gluedFields_1 rfl hl (by decide) rfl (fun ls hl => ?_)
  refine lv_aload_n hx hb dX9_gluedFields_2 rfl (lv_at hl 1 rfl) ?_
  refine va_get (D := D) (ci := 8) (v := .null) (C := RX9) (T := TX9) (N := 11) hx hb hts hi9 hown hK hP 0 rfl rfl 7 (by decide) hw0 (fun _ h9 => h9) rfl dX9_gluedFields_3 ?_
  refine lv_astore_nN (lv' := [(3, .null), (1, .long 0), (0, .ref (a 0))]) hx hb dX9_gluedFields_6 rfl hl (by decide) rfl (fun ls hl => ?_)
  refine lv_aload_nN hx hb dX9_gluedFields_7 rfl (lv_at hl 0 rfl) ?_
  refine lv_ifnullN (tgt := 33) hx hb dX9_gluedFields_8 (by decide) ?_
  refine lv_lload_n hx hb dX9_gluedFields_33 rfl (lv_at hl 1 rfl) ?_
  exact pret_l hx hb hr hlocks rfl dX9_gluedFields_34
theorem dX9_gluedStarts_0 : decode cX9_gluedStarts 0 = .ok (.lconst 0, 1) := by decide +kernel
theorem dX9_gluedStarts_1 : decode cX9_gluedStarts 1 = .ok (.lstore_n 2, 1) := by decide +kernel
theorem dX9_gluedStarts_2 : decode cX9_gluedStarts 2 = .ok (.aload_n 0, 1) := by decide +kernel
theorem dX9_gluedStarts_3 : decode cX9_gluedStarts 3 = .ok (.getfield 106, 3) := by decide +kernel
theorem dX9_gluedStarts_6 : decode cX9_gluedStarts 6 = .ok (.astore 4, 2) := by decide +kernel
theorem dX9_gluedStarts_8 : decode cX9_gluedStarts 8 = .ok (.aload 4, 2) := by decide +kernel
theorem dX9_gluedStarts_10 : decode cX9_gluedStarts 10 = .ok (.ifnull 40, 3) := by decide +kernel
theorem dX9_gluedStarts_50 : decode cX9_gluedStarts 50 = .ok (.lload_n 2, 1) := by decide +kernel
theorem dX9_gluedStarts_51 : decode cX9_gluedStarts 51 = .ok (.lreturn, 1) := by decide +kernel
set_option maxRecDepth 20000 in
theorem ihX9_gluedStarts_9 : ∀ w ∈ u_ws RX9 TX9 11, w ∈ wsX9_gluedStarts := by decide +kernel
set_option maxHeartbeats 4000000 in
set_option maxRecDepth 100000 in
theorem c_X9_gluedStartsC (l : Launch) (D : va_G) (cy : Nat → ClassId) (a : Nat → Nat) (sz : Nat) (I : Nat → Int32) (R : Nat → Nat → Int32) (RO : Nat → Nat → Option Nat) (x0 : Bool) : Met l yX9_gluedStarts wsX9_gluedStarts ({ frames := 0, cells := 0, slots := 0, locals := 0 }) (va_Pc [.ref (a 0), .int (bI x0)] (PW D cy sz (CW cy a (fun _ => 0) I (va_up (fun _ => none) 100 (some (a 4))) R RO))) (vp_Sl (fun r => r = 0)) 0 0 (fun _ => False) := by
  refine Met.ofW (cc := cX9_gluedStarts) (maxL := 5) (ret := (some .long)) (by decide) rfl ?_
  intro p e s m args below meth c s₁ B hml hv
  obtain ⟨rfl, rfl, hP, hK, hN, hD0⟩ := hv
  have hx := B.exec
  have hb := B.bytes
  have hr := B.returns
  have hts := atoms_spec (ws := wsX9_gluedStarts) B.pre
  have hown : s.vm.findClass RX9 = some m.cls := findClass_of_methodNamed B.named
  have hlocks := B.notSynchronized
  have hw0 := hts (.fieldLink RX9 106 "ParquetLayer" "latest" "LParquetLayer$Stone;") (by decide +kernel)
  have hi9 := ihX9_gluedStarts_9
  have hD := hD0
  have hl := lv_entry ([.ref (a 0), .int (bI x0)]) (n := 5) (Nat.le_of_ble_eq_true rfl)
  rw [lg_entry_eq]
  generalize (lg_sl ([.ref (a 0), .int (bI x0)]) ++ List.replicate (5 - (lg_sl ([.ref (a 0), .int (bI x0)])).length) Slot.unset).toArray = ls at hl ⊢
  have hl : lv_has ls 5 [(0, .ref (a 0)), (1, .int (bI x0))] := hl
  refine lv_lconst (v := 0) hx hb dX9_gluedStarts_0 (by decide) ?_
  refine lv_lstore_n (lv' := [(2, .long 0), (0, .ref (a 0)), (1, .int (bI x0))]) hx hb dX9_gluedStarts_1 rfl hl (by decide) rfl (fun ls hl => ?_)
  refine lv_aload_n hx hb dX9_gluedStarts_2 rfl (lv_at hl 1 rfl) ?_
  refine va_get (D := D) (ci := 8) (v := .null) (C := RX9) (T := TX9) (N := 11) hx hb hts hi9 hown hK hP 0 rfl rfl 7 (by decide) hw0 (fun _ h9 => h9) rfl dX9_gluedStarts_3 ?_
  refine lv_astoreN (lv' := [(4, .null), (2, .long 0), (0, .ref (a 0)), (1, .int (bI x0))]) hx hb dX9_gluedStarts_6 hl (by decide) rfl (fun ls hl => ?_)
  refine lv_aloadN hx hb dX9_gluedStarts_8 (lv_at hl 0 rfl) ?_
  refine lv_ifnullN (tgt := 50) hx hb dX9_gluedStarts_10 (by decide) ?_
  refine lv_lload_n hx hb dX9_gluedStarts_50 rfl (lv_at hl 1 rfl) ?_
  exact pret_l hx hb hr hlocks rfl dX9_gluedStarts_51
set_option maxHeartbeats 4000000 in
set_option maxRecDepth 100000 in
theorem c_X9_gluedFieldsL (l : Launch) (D : va_G) (cy : Nat → ClassId) (a : Nat → Nat) (sz : Nat) (I : Nat → Int32) (R : Nat → Nat → Int32) (RO : Nat → Nat → Option Nat)  : Met l yX9_gluedFields wsX9_gluedFields ({ frames := 0, cells := 0, slots := 0, locals := 0 }) (va_Pc [.ref (a 0)] (PW D cy sz (CL cy a (fun _ => 0) I (va_up (va_up (fun _ => none) 100 (some (a 4))) 5 (some (a 20))) R RO))) (vp_Sl (fun r => r = 0)) 0 0 (fun _ => False) := by
  refine Met.ofW (cc := cX9_gluedFields) (maxL := 4) (ret := (some .long)) (by decide) rfl ?_
  intro p e s m args below meth c s₁ B hml hv
  obtain ⟨rfl, rfl, hP, hK, hN, hD0⟩ := hv
  have hx := B.exec
  have hb := B.bytes
  have hr := B.returns
  have hts := atoms_spec (ws := wsX9_gluedFields) B.pre
  have hown : s.vm.findClass RX9 = some m.cls := findClass_of_methodNamed B.named
  have hlocks := B.notSynchronized
  have hw0 := hts (.fieldLink RX9 106 "ParquetLayer" "latest" "LParquetLayer$Stone;") (by decide +kernel)
  have hi9 := ihX9_gluedFields_9
  have hD := hD0
  have hl := lv_entry ([.ref (a 0)]) (n := 4) (Nat.le_of_ble_eq_true rfl)
  rw [lg_entry_eq]
  generalize (lg_sl ([.ref (a 0)]) ++ List.replicate (4 - (lg_sl ([.ref (a 0)])).length) Slot.unset).toArray = ls at hl ⊢
  have hl : lv_has ls 4 [(0, .ref (a 0))] := hl
  refine lv_lconst (v := 0) hx hb dX9_gluedFields_0 (by decide) ?_
  refine lv_lstore_n (lv' := [(1, .long 0), (0, .ref (a 0))]) hx hb dX9_gluedFields_1 rfl hl (by decide) rfl (fun ls hl => ?_)
  refine lv_aload_n hx hb dX9_gluedFields_2 rfl (lv_at hl 1 rfl) ?_
  refine va_get (D := D) (ci := 8) (v := .null) (C := RX9) (T := TX9) (N := 11) hx hb hts hi9 hown hK hP 0 rfl rfl 7 (by decide) hw0 (fun _ h9 => h9) rfl dX9_gluedFields_3 ?_
  refine lv_astore_nN (lv' := [(3, .null), (1, .long 0), (0, .ref (a 0))]) hx hb dX9_gluedFields_6 rfl hl (by decide) rfl (fun ls hl => ?_)
  refine lv_aload_nN hx hb dX9_gluedFields_7 rfl (lv_at hl 0 rfl) ?_
  refine lv_ifnullN (tgt := 33) hx hb dX9_gluedFields_8 (by decide) ?_
  refine lv_lload_n hx hb dX9_gluedFields_33 rfl (lv_at hl 1 rfl) ?_
  exact pret_l hx hb hr hlocks rfl dX9_gluedFields_34
set_option maxHeartbeats 4000000 in
set_option maxRecDepth 100000 in
theorem c_X9_gluedStartsL (l : Launch) (D : va_G) (cy : Nat → ClassId) (a : Nat → Nat) (sz : Nat) (I : Nat → Int32) (R : Nat → Nat → Int32) (RO : Nat → Nat → Option Nat) (x0 : Bool) : Met l yX9_gluedStarts wsX9_gluedStarts ({ frames := 0, cells := 0, slots := 0, locals := 0 }) (va_Pc [.ref (a 0), .int (bI x0)] (PW D cy sz (CL cy a (fun _ => 0) I (va_up (va_up (fun _ => none) 100 (some (a 4))) 5 (some (a 20))) R RO))) (vp_Sl (fun r => r = 0)) 0 0 (fun _ => False) := by
  refine Met.ofW (cc := cX9_gluedStarts) (maxL := 5) (ret := (some .long)) (by decide) rfl ?_
  intro p e s m args below meth c s₁ B hml hv
  obtain ⟨rfl, rfl, hP, hK, hN, hD0⟩ := hv
  have hx := B.exec
  have hb := B.bytes
  have hr := B.returns
  have hts := atoms_spec (ws := wsX9_gluedStarts) B.pre
  have hown : s.vm.findClass RX9 = some m.cls := findClass_of_methodNamed B.named
  have hlocks := B.notSynchronized
  have hw0 := hts (.fieldLink RX9 106 "ParquetLayer" "latest" "LParquetLayer$Stone;") (by decide +kernel)
  have hi9 := ihX9_gluedStarts_9
  have hD := hD0
  have hl := lv_entry ([.ref (a 0), .int (bI x0)]) (n := 5) (Nat.le_of_ble_eq_true rfl)
  rw [lg_entry_eq]
  generalize (lg_sl ([.ref (a 0), .int (bI x0)]) ++ List.replicate (5 - (lg_sl ([.ref (a 0), .int (bI x0)])).length) Slot.unset).toArray = ls at hl ⊢
  have hl : lv_has ls 5 [(0, .ref (a 0)), (1, .int (bI x0))] := hl
  refine lv_lconst (v := 0) hx hb dX9_gluedStarts_0 (by decide) ?_
  refine lv_lstore_n (lv' := [(2, .long 0), (0, .ref (a 0)), (1, .int (bI x0))]) hx hb dX9_gluedStarts_1 rfl hl (by decide) rfl (fun ls hl => ?_)
  refine lv_aload_n hx hb dX9_gluedStarts_2 rfl (lv_at hl 1 rfl) ?_
  refine va_get (D := D) (ci := 8) (v := .null) (C := RX9) (T := TX9) (N := 11) hx hb hts hi9 hown hK hP 0 rfl rfl 7 (by decide) hw0 (fun _ h9 => h9) rfl dX9_gluedStarts_3 ?_
  refine lv_astoreN (lv' := [(4, .null), (2, .long 0), (0, .ref (a 0)), (1, .int (bI x0))]) hx hb dX9_gluedStarts_6 hl (by decide) rfl (fun ls hl => ?_)
  refine lv_aloadN hx hb dX9_gluedStarts_8 (lv_at hl 0 rfl) ?_
  refine lv_ifnullN (tgt := 50) hx hb dX9_gluedStarts_10 (by decide) ?_
  refine lv_lload_n hx hb dX9_gluedStarts_50 rfl (lv_at hl 1 rfl) ?_
  exact pret_l hx hb hr hlocks rfl dX9_gluedStarts_51
theorem dX9_stoneCount_0 : decode cX9_stoneCount 0 = .ok (.aload_n 0, 1) := by decide +kernel
theorem dX9_stoneCount_1 : decode cX9_stoneCount 1 = .ok (.getfield 106, 3) := by decide +kernel
theorem dX9_stoneCount_4 : decode cX9_stoneCount 4 = .ok (.ifnonnull 7, 3) := by decide +kernel
theorem dX9_stoneCount_7 : decode cX9_stoneCount 7 = .ok (.iconst 0, 1) := by decide +kernel
theorem dX9_stoneCount_8 : decode cX9_stoneCount 8 = .ok (.goto 12, 3) := by decide +kernel
theorem dX9_stoneCount_20 : decode cX9_stoneCount 20 = .ok (.ireturn, 1) := by decide +kernel
set_option maxRecDepth 20000 in
theorem ihX9_stoneCount_9 : ∀ w ∈ u_ws RX9 TX9 11, w ∈ wsX9_stoneCount := by decide +kernel
set_option maxHeartbeats 4000000 in
set_option maxRecDepth 100000 in
theorem c_X9_stoneCount (l : Launch) (D : va_G) (cy : Nat → ClassId) (a : Nat → Nat) (sz : Nat) (RO : Nat → Nat → Option Nat)  : Met l yX9_stoneCount wsX9_stoneCount ({ frames := 0, cells := 0, slots := 0, locals := 0 }) (va_Pc [.ref (a 0)] (PW D cy sz (CW cy a (fun _ => 0) (fun _ => 0) (va_up (fun _ => none) 100 (some (a 4))) (fun _ _ => 0) RO))) (vp_Si (fun r => r = 0)) 0 0 (fun _ => False) := by
  refine Met.ofW (cc := cX9_stoneCount) (maxL := 1) (ret := (some .int)) (by decide) rfl ?_
  intro p e s m args below meth c s₁ B hml hv
  obtain ⟨rfl, rfl, hP, hK, hN, hD0⟩ := hv
  have hx := B.exec
  have hb := B.bytes
  have hr := B.returns
  have hts := atoms_spec (ws := wsX9_stoneCount) B.pre
  have hown : s.vm.findClass RX9 = some m.cls := findClass_of_methodNamed B.named
  have hlocks := B.notSynchronized
  have hw0 := hts (.fieldLink RX9 106 "ParquetLayer" "latest" "LParquetLayer$Stone;") (by decide +kernel)
  have hi9 := ihX9_stoneCount_9
  have hD := hD0
  have hl := lv_entry ([.ref (a 0)]) (n := 1) (Nat.le_of_ble_eq_true rfl)
  rw [lg_entry_eq]
  generalize (lg_sl ([.ref (a 0)]) ++ List.replicate (1 - (lg_sl ([.ref (a 0)])).length) Slot.unset).toArray = ls at hl ⊢
  have hl : lv_has ls 1 [(0, .ref (a 0))] := hl
  refine lv_aload_n hx hb dX9_stoneCount_0 rfl (lv_at hl 0 rfl) ?_
  refine va_get (D := D) (ci := 8) (v := .null) (C := RX9) (T := TX9) (N := 11) hx hb hts hi9 hown hK hP 0 rfl rfl 7 (by decide) hw0 (fun _ h9 => h9) rfl dX9_stoneCount_1 ?_
  refine lv_ifnonnullN hx hb dX9_stoneCount_4 ?_
  refine lv_iconst (v := 0) hx hb dX9_stoneCount_7 (by decide) ?_
  refine lv_goto (tgt := 20) hx hb dX9_stoneCount_8 (by decide) ?_
  exact pret_i hx hb hr hlocks rfl dX9_stoneCount_20
theorem dX9_gluedCount_0 : decode cX9_gluedCount 0 = .ok (.iconst 0, 1) := by decide +kernel
theorem dX9_gluedCount_1 : decode cX9_gluedCount 1 = .ok (.istore_n 1, 1) := by decide +kernel
theorem dX9_gluedCount_2 : decode cX9_gluedCount 2 = .ok (.aload_n 0, 1) := by decide +kernel
theorem dX9_gluedCount_3 : decode cX9_gluedCount 3 = .ok (.getfield 106, 3) := by decide +kernel
theorem dX9_gluedCount_6 : decode cX9_gluedCount 6 = .ok (.astore_n 2, 1) := by decide +kernel
theorem dX9_gluedCount_7 : decode cX9_gluedCount 7 = .ok (.aload_n 2, 1) := by decide +kernel
theorem dX9_gluedCount_8 : decode cX9_gluedCount 8 = .ok (.ifnull 21, 3) := by decide +kernel
theorem dX9_gluedCount_29 : decode cX9_gluedCount 29 = .ok (.iload_n 1, 1) := by decide +kernel
theorem dX9_gluedCount_30 : decode cX9_gluedCount 30 = .ok (.ireturn, 1) := by decide +kernel
set_option maxRecDepth 20000 in
theorem ihX9_gluedCount_9 : ∀ w ∈ u_ws RX9 TX9 11, w ∈ wsX9_gluedCount := by decide +kernel
set_option maxHeartbeats 4000000 in
set_option maxRecDepth 100000 in
theorem c_X9_gluedCount (l : Launch) (D : va_G) (cy : Nat → ClassId) (a : Nat → Nat) (sz : Nat) (RO : Nat → Nat → Option Nat)  : Met l yX9_gluedCount wsX9_gluedCount ({ frames := 0, cells := 0, slots := 0, locals := 0 }) (va_Pc [.ref (a 0)] (PW D cy sz (CW cy a (fun _ => 0) (fun _ => 0) (va_up (fun _ => none) 100 (some (a 4))) (fun _ _ => 0) RO))) (vp_Si (fun r => r = 0)) 0 0 (fun _ => False) := by
  refine Met.ofW (cc := cX9_gluedCount) (maxL := 3) (ret := (some .int)) (by decide) rfl ?_
  intro p e s m args below meth c s₁ B hml hv
  obtain ⟨rfl, rfl, hP, hK, hN, hD0⟩ := hv
  have hx := B.exec
  have hb := B.bytes
  have hr := B.returns
  have hts := atoms_spec (ws := wsX9_gluedCount) B.pre
  have hown : s.vm.findClass RX9 = some m.cls := findClass_of_methodNamed B.named
  have hlocks := B.notSynchronized
  have hw0 := hts (.fieldLink RX9 106 "ParquetLayer" "latest" "LParquetLayer$Stone;") (by decide +kernel)
  have hi9 := ihX9_gluedCount_9
  have hD := hD0
  have hl := lv_entry ([.ref (a 0)]) (n := 3) (Nat.le_of_ble_eq_true rfl)
  rw [lg_entry_eq]
  generalize (lg_sl ([.ref (a 0)]) ++ List.replicate (3 - (lg_sl ([.ref (a 0)])).length) Slot.unset).toArray = ls at hl ⊢
  have hl : lv_has ls 3 [(0, .ref (a 0))] := hl
  refine lv_iconst (v := 0) hx hb dX9_gluedCount_0 (by decide) ?_
  refine lv_istore_n (lv' := [(1, .int 0), (0, .ref (a 0))]) hx hb dX9_gluedCount_1 rfl hl (by decide) rfl (fun ls hl => ?_)
  refine lv_aload_n hx hb dX9_gluedCount_2 rfl (lv_at hl 1 rfl) ?_
  refine va_get (D := D) (ci := 8) (v := .null) (C := RX9) (T := TX9) (N := 11) hx hb hts hi9 hown hK hP 0 rfl rfl 7 (by decide) hw0 (fun _ h9 => h9) rfl dX9_gluedCount_3 ?_
  refine lv_astore_nN (lv' := [(2, .null), (1, .int 0), (0, .ref (a 0))]) hx hb dX9_gluedCount_6 rfl hl (by decide) rfl (fun ls hl => ?_)
  refine lv_aload_nN hx hb dX9_gluedCount_7 rfl (lv_at hl 0 rfl) ?_
  refine lv_ifnullN (tgt := 29) hx hb dX9_gluedCount_8 (by decide) ?_
  refine lv_iload_n hx hb dX9_gluedCount_29 rfl (lv_at hl 1 rfl) ?_
  exact pret_i hx hb hr hlocks rfl dX9_gluedCount_30
theorem dX9_isPlace_0 : decode cX9_isPlace 0 = .ok (.iload_n 1, 1) := by decide +kernel
theorem dX9_isPlace_1 : decode cX9_isPlace 1 = .ok (.iload_n 2, 1) := by decide +kernel
set_option maxRecDepth 20000 in
theorem ggX9_isPlace_X1_place : GoodIn wsX9_isPlace wsX1_place := goodIn_r _ [6] (by decide +kernel) (by decide +kernel)
set_option maxRecDepth 20000 in
theorem gX9_isPlace_X1_place : GoodIn wsX9_isPlace (va_wsS RX9 182 yX1_place wsX1_place) := goodIn_app (goodIn_of _ (by decide +kernel)) ggX9_isPlace_X1_place
theorem dX9_isPlace_2 : decode cX9_isPlace 2 = .ok (.invokestatic 182, 3) := by decide +kernel
theorem dX9_isPlace_5 : decode cX9_isPlace 5 = .ok (.lstore_n 3, 1) := by decide +kernel
theorem dX9_isPlace_6 : decode cX9_isPlace 6 = .ok (.lload_n 3, 1) := by decide +kernel
theorem dX9_isPlace_7 : decode cX9_isPlace 7 = .ok (.lconst 0, 1) := by decide +kernel
theorem dX9_isPlace_8 : decode cX9_isPlace 8 = .ok (.lcmp, 1) := by decide +kernel
theorem dX9_isPlace_9 : decode cX9_isPlace 9 = .ok (.ifCond .eq 22, 3) := by decide +kernel
theorem dX9_isPlace_31 : decode cX9_isPlace 31 = .ok (.iconst 0, 1) := by decide +kernel
theorem dX9_isPlace_32 : decode cX9_isPlace 32 = .ok (.ireturn, 1) := by decide +kernel
theorem dX9_isPlace_12 : decode cX9_isPlace 12 = .ok (.lload_n 3, 1) := by decide +kernel
theorem dX9_isPlace_13 : decode cX9_isPlace 13 = .ok (.aload_n 0, 1) := by decide +kernel
theorem dX9_isPlace_14 : decode cX9_isPlace 14 = .ok (.getfield 48, 3) := by decide +kernel
theorem dX9_isPlace_17 : decode cX9_isPlace 17 = .ok (.ldc2_w 54, 3) := by decide +kernel
theorem dX9_isPlace_20 : decode cX9_isPlace 20 = .ok (.lxor, 1) := by decide +kernel
theorem dX9_isPlace_21 : decode cX9_isPlace 21 = .ok (.land, 1) := by decide +kernel
theorem dX9_isPlace_22 : decode cX9_isPlace 22 = .ok (.lconst 0, 1) := by decide +kernel
theorem dX9_isPlace_23 : decode cX9_isPlace 23 = .ok (.lcmp, 1) := by decide +kernel
theorem dX9_isPlace_24 : decode cX9_isPlace 24 = .ok (.ifCond .ne 7, 3) := by decide +kernel
set_option maxRecDepth 20000 in
theorem ihX9_isPlace_9 : ∀ w ∈ u_ws RX9 TX9 11, w ∈ wsX9_isPlace := by decide +kernel
set_option maxHeartbeats 4000000 in
set_option maxRecDepth 100000 in
theorem c_X9_isPlace (l : Launch) (D : va_G) (cy : Nat → ClassId) (a : Nat → Nat) (sz : Nat) (RO : Nat → Nat → Option Nat) (x0 : Int32) (x1 : Bool) : Met l yX9_isPlace wsX9_isPlace ({ frames := 1, cells := 0, slots := 0, locals := 21 }) (va_Pc [.ref (a 0), .int x0, .int (bI x1)] (PW D cy sz (CW cy a (fun _ => 0) (fun _ => 0) (va_up (fun _ => none) 100 (some (a 4))) (fun _ _ => 0) RO))) (vp_Si (fun r => r = bI (false))) 0 0 (fun _ => False) := by
  refine Met.ofW (cc := cX9_isPlace) (maxL := 5) (ret := (some .boolean)) (by decide) rfl ?_
  intro p e s m args below meth c s₁ B hml hv
  obtain ⟨rfl, rfl, hP, hK, hN, hD0⟩ := hv
  have hx := B.exec
  have hb := B.bytes
  have hr := B.returns
  have hts := atoms_spec (ws := wsX9_isPlace) B.pre
  have hown : s.vm.findClass RX9 = some m.cls := findClass_of_methodNamed B.named
  have hlocks := B.notSynchronized
  have hw0 := hts (.fieldLink RX9 48 "ParquetLayer" "fields" "J") (by decide +kernel)
  have hw1 := hts (.constantLong RX9 54 (-1)) (by decide +kernel)
  have hi9 := ihX9_isPlace_9
  have hD := hD0
  have hl := lv_entry ([.ref (a 0), .int x0, .int (bI x1)]) (n := 5) (Nat.le_of_ble_eq_true rfl)
  rw [lg_entry_eq]
  generalize (lg_sl ([.ref (a 0), .int x0, .int (bI x1)]) ++ List.replicate (5 - (lg_sl ([.ref (a 0), .int x0, .int (bI x1)])).length) Slot.unset).toArray = ls at hl ⊢
  have hl : lv_has ls 5 [(0, .ref (a 0)), (1, .int x0), (2, .int (bI x1))] := hl
  refine lv_iload_n hx hb dX9_isPlace_0 rfl (lv_at hl 1 rfl) ?_
  refine lv_iload_n hx hb dX9_isPlace_1 rfl (lv_at hl 2 rfl) ?_
  refine kS_l (As := [.int x0, .int (bI x1)]) (rest := []) ⟨hx, hb, hml, hown, hts⟩ (c_X1_place l x0 x1) (va_cwS 2 hts gX9_isPlace_X1_place rfl rfl rfl (by decide +kernel) ⟨Nat.le_of_ble_eq_true rfl, Nat.le_of_ble_eq_true rfl⟩) rfl hl.1 rfl (Nat.le_of_ble_eq_true rfl) dX9_isPlace_2 ⟨Nat.le_of_ble_eq_true rfl, Nat.le_of_ble_eq_true rfl⟩ ?_
  refine lv_lstore_n (lv' := [(3, .long (g_place x0 x1)), (0, .ref (a 0)), (1, .int x0), (2, .int (bI x1))]) hx hb dX9_isPlace_5 rfl hl (by decide) rfl (fun ls hl => ?_)
  refine lv_lload_n hx hb dX9_isPlace_6 rfl (lv_at hl 0 rfl) ?_
  refine lv_lconst (v := 0) hx hb dX9_isPlace_7 (by decide) ?_
  refine W.lcmp hx hb dX9_isPlace_8 ?_
  refine lv_if_eq (tgt := 31) hx hb dX9_isPlace_9 (by decide) (fun c_1 => ?_) (fun c_1 => ?_)
  · replace c_1 := (lg_cmp_eq _ _).mp c_1
    refine lv_iconst (v := 0) hx hb dX9_isPlace_31 (by decide) ?_
    exact pret_z hx hb hr hlocks rfl dX9_isPlace_32
  · replace c_1 := fun z => c_1 ((lg_cmp_eq _ _).mpr z)
    refine lv_lload_n hx hb dX9_isPlace_12 rfl (lv_at hl 0 rfl) ?_
    refine lv_aload_n hx hb dX9_isPlace_13 rfl (lv_at hl 1 rfl) ?_
    refine va_get (D := D) (ci := 8) (v := .long 0) (C := RX9) (T := TX9) (N := 11) hx hb hts hi9 hown hK hP 0 rfl rfl 6 (by decide) hw0 (fun _ h9 => h9) rfl dX9_isPlace_14 ?_
    refine lv_ldc2 (v := (-1)) hx hb hown hw1 dX9_isPlace_17 ?_
    refine lv_lxor hx hb dX9_isPlace_20 ?_
    refine wtop_l (y := (-1)) (by decide) ?_
    refine lv_land hx hb dX9_isPlace_21 ?_
    refine lv_lconst (v := 0) hx hb dX9_isPlace_22 (by decide) ?_
    refine W.lcmp hx hb dX9_isPlace_23 ?_
    refine lv_if_ne (tgt := 31) hx hb dX9_isPlace_24 (by decide) (fun c_2 => ?_) (fun c_2 => absurd c_2 (fun z => c_1 (by have h9 := (lg_cmp_eq _ _).mp z; rw [l_and1] at h9; exact h9)))
    refine lv_iconst (v := 0) hx hb dX9_isPlace_31 (by decide) ?_
    exact pret_z hx hb hr hlocks rfl dX9_isPlace_32
theorem dX9_isWhole_0 : decode cX9_isWhole 0 = .ok (.aload_n 0, 1) := by decide +kernel
set_option maxRecDepth 20000 in
theorem ggX9_isWhole_X9_gluedFields : GoodIn wsX9_isWhole wsX9_gluedFields := goodIn_r _ [6, 7, 8, 9, 10, 11, 12, 13, 14, 15, 16, 5, 17, 38, 39, 40, 41, 42, 43, 44, 45, 46, 47, 48, 49, 50, 51, 52, 53, 54, 55] (by decide +kernel) (by decide +kernel)
set_option maxRecDepth 20000 in
theorem gX9_isWhole_X9_gluedFields : GoodIn wsX9_isWhole (wsV RX9 119 RX9 yX9_gluedFields wsX9_gluedFields) := goodIn_app (goodIn_of _ (by decide +kernel)) ggX9_isWhole_X9_gluedFields
theorem dX9_isWhole_1 : decode cX9_isWhole 1 = .ok (.invokevirtual 119, 3) := by decide +kernel
theorem dX9_isWhole_4 : decode cX9_isWhole 4 = .ok (.lconst 0, 1) := by decide +kernel
theorem dX9_isWhole_5 : decode cX9_isWhole 5 = .ok (.lcmp, 1) := by decide +kernel
theorem dX9_isWhole_6 : decode cX9_isWhole 6 = .ok (.ifCond .ne 17, 3) := by decide +kernel
theorem dX9_isWhole_9 : decode cX9_isWhole 9 = .ok (.aload_n 0, 1) := by decide +kernel
theorem dX9_isWhole_10 : decode cX9_isWhole 10 = .ok (.getfield 48, 3) := by decide +kernel
set_option maxRecDepth 20000 in
theorem ggX9_isWhole_X1_isDisc : GoodIn wsX9_isWhole wsX1_isDisc := goodIn_r _ [21, 22, 23, 24, 25, 20, 26, 27, 28, 29, 30, 31, 32, 33, 34, 35, 36, 37] (by decide +kernel) (by decide +kernel)
set_option maxRecDepth 20000 in
theorem gX9_isWhole_X1_isDisc : GoodIn wsX9_isWhole (va_wsS RX9 326 yX1_isDisc wsX1_isDisc) := goodIn_app (goodIn_of _ (by decide +kernel)) ggX9_isWhole_X1_isDisc
theorem dX9_isWhole_13 : decode cX9_isWhole 13 = .ok (.invokestatic 326, 3) := by decide +kernel
theorem dX9_isWhole_16 : decode cX9_isWhole 16 = .ok (.ifCond .eq 7, 3) := by decide +kernel
theorem dX9_isWhole_23 : decode cX9_isWhole 23 = .ok (.iconst 0, 1) := by decide +kernel
theorem dX9_isWhole_24 : decode cX9_isWhole 24 = .ok (.ireturn, 1) := by decide +kernel
set_option maxRecDepth 20000 in
theorem ihX9_isWhole_9 : ∀ w ∈ u_ws RX9 TX9 11, w ∈ wsX9_isWhole := by decide +kernel
set_option maxHeartbeats 4000000 in
set_option maxRecDepth 100000 in
theorem c_X9_isWhole (l : Launch) (D : va_G) (cy : Nat → ClassId) (a : Nat → Nat) (sz : Nat) (RO : Nat → Nat → Option Nat)  : Met l yX9_isWhole wsX9_isWhole ({ frames := 3, cells := 0, slots := 0, locals := 68 }) (va_Pc [.ref (a 0)] (PW D cy sz (CW cy a (fun _ => 0) (fun _ => 0) (va_up (fun _ => none) 100 (some (a 4))) (fun _ _ => 0) RO))) (vp_Si (fun r => r = bI (false))) 0 0 (fun _ => False) := by
  refine Met.ofW (cc := cX9_isWhole) (maxL := 1) (ret := (some .boolean)) (by decide) rfl ?_
  intro p e s m args below meth c s₁ B hml hv
  obtain ⟨rfl, rfl, hP, hK, hN, hD0⟩ := hv
  have hx := B.exec
  have hb := B.bytes
  have hr := B.returns
  have hts := atoms_spec (ws := wsX9_isWhole) B.pre
  have hown : s.vm.findClass RX9 = some m.cls := findClass_of_methodNamed B.named
  have hlocks := B.notSynchronized
  have hw0 := hts (.fieldLink RX9 48 "ParquetLayer" "fields" "J") (by decide +kernel)
  have hi9 := ihX9_isWhole_9
  have hD := hD0
  have hl := lv_entry ([.ref (a 0)]) (n := 1) (Nat.le_of_ble_eq_true rfl)
  rw [lg_entry_eq]
  generalize (lg_sl ([.ref (a 0)]) ++ List.replicate (1 - (lg_sl ([.ref (a 0)])).length) Slot.unset).toArray = ls at hl ⊢
  have hl : lv_has ls 1 [(0, .ref (a 0))] := hl
  refine lv_aload_n hx hb dX9_isWhole_0 rfl (lv_at hl 0 rfl) ?_
  refine kR_l (As := []) (rest := []) (q0 := 0) ⟨hx, hb, hml, hown, hts⟩ (c_X9_gluedFieldsC l D cy a _ (fun _ => 0) (fun _ _ => 0) RO  ) (cwV 0 hts gX9_isWhole_X9_gluedFields rfl rfl rfl (by decide +kernel) ⟨Nat.le_of_ble_eq_true rfl, Nat.le_of_ble_eq_true rfl⟩) hK hN hP hD rfl rfl rfl hl.1 rfl (Nat.le_of_ble_eq_true rfl) dX9_isWhole_1 ⟨Nat.le_of_ble_eq_true rfl, Nat.le_of_ble_eq_true rfl⟩ ?_
  refine lv_lconst (v := 0) hx hb dX9_isWhole_4 (by decide) ?_
  refine W.lcmp hx hb dX9_isWhole_5 ?_
  refine wtop_i (y := 0) (by decide) ?_
  refine lv_if_ne (tgt := 23) hx hb dX9_isWhole_6 (by decide) (fun c_1 => absurd (by decide) c_1) (fun c_1 => ?_)
  refine lv_aload_n hx hb dX9_isWhole_9 rfl (lv_at hl 0 rfl) ?_
  refine va_get (D := D) (ci := 8) (v := .long 0) (C := RX9) (T := TX9) (N := 11) hx hb hts hi9 hown hK hP 0 rfl rfl 6 (by decide) hw0 (fun _ h9 => h9) rfl dX9_isWhole_10 ?_
  refine kS_i (As := [.long 0]) (rest := []) ⟨hx, hb, hml, hown, hts⟩ (c_X1_isDisc0 l ) (va_cwS 1 hts gX9_isWhole_X1_isDisc rfl rfl rfl (by decide +kernel) ⟨Nat.le_of_ble_eq_true rfl, Nat.le_of_ble_eq_true rfl⟩) rfl hl.1 rfl (Nat.le_of_ble_eq_true rfl) dX9_isWhole_13 ⟨Nat.le_of_ble_eq_true rfl, Nat.le_of_ble_eq_true rfl⟩ ?_
  refine lv_if_eq (tgt := 23) hx hb dX9_isWhole_16 (by decide) (fun c_2 => ?_) (fun c_2 => absurd (by decide) c_2)
  refine lv_iconst (v := 0) hx hb dX9_isWhole_23 (by decide) ?_
  exact pret_z hx hb hr hlocks rfl dX9_isWhole_24
theorem dX9_isSheet_0 : decode cX9_isSheet 0 = .ok (.iload_n 1, 1) := by decide +kernel
theorem dX9_isSheet_1 : decode cX9_isSheet 1 = .ok (.ifCond .lt 16, 3) := by decide +kernel
theorem dX9_isSheet_17 : decode cX9_isSheet 17 = .ok (.iconst 0, 1) := by decide +kernel
theorem dX9_isSheet_18 : decode cX9_isSheet 18 = .ok (.ireturn, 1) := by decide +kernel
theorem dX9_isSheet_4 : decode cX9_isSheet 4 = .ok (.iload_n 1, 1) := by decide +kernel
theorem dX9_isSheet_5 : decode cX9_isSheet 5 = .ok (.aload_n 0, 1) := by decide +kernel
theorem dX9_isSheet_6 : decode cX9_isSheet 6 = .ok (.getfield 9, 3) := by decide +kernel
theorem dX9_isSheet_9 : decode cX9_isSheet 9 = .ok (.arraylength, 1) := by decide +kernel
theorem dX9_isSheet_10 : decode cX9_isSheet 10 = .ok (.if_icmp .ge 7, 3) := by decide +kernel
theorem dX9_isSheet_13 : decode cX9_isSheet 13 = .ok (.iconst 1, 1) := by decide +kernel
theorem dX9_isSheet_14 : decode cX9_isSheet 14 = .ok (.goto 4, 3) := by decide +kernel
set_option maxRecDepth 20000 in
theorem ihX9_isSheet_9 : ∀ w ∈ u_ws RX9 TX9 11, w ∈ wsX9_isSheet := by decide +kernel
set_option maxHeartbeats 4000000 in
set_option maxRecDepth 100000 in
theorem c_X9_isSheet (l : Launch) (D : va_G) (cy : Nat → ClassId) (a : Nat → Nat) (sz : Nat) (RO : Nat → Nat → Option Nat) (x0 : Int32) : Met l yX9_isSheet wsX9_isSheet ({ frames := 0, cells := 0, slots := 0, locals := 0 }) (va_Pc [.ref (a 0), .int x0] (PW D cy sz (CW cy a (fun _ => 0) (fun _ => 0) (va_up (fun _ => none) 100 (some (a 4))) (fun _ _ => 0) RO))) (vp_Si (fun r => r = bI (m_within x0 0 3))) 0 0 (fun _ => False) := by
  refine Met.ofW (cc := cX9_isSheet) (maxL := 2) (ret := (some .boolean)) (by decide) rfl ?_
  intro p e s m args below meth c s₁ B hml hv
  obtain ⟨rfl, rfl, hP, hK, hN, hD0⟩ := hv
  have hx := B.exec
  have hb := B.bytes
  have hr := B.returns
  have hts := atoms_spec (ws := wsX9_isSheet) B.pre
  have hown : s.vm.findClass RX9 = some m.cls := findClass_of_methodNamed B.named
  have hlocks := B.notSynchronized
  have hw0 := hts (.fieldLink RX9 9 "ParquetLayer" "sheets" "[LParquetLayer$Sheet;") (by decide +kernel)
  have hi9 := ihX9_isSheet_9
  have hD := hD0
  have hl := lv_entry ([.ref (a 0), .int x0]) (n := 2) (Nat.le_of_ble_eq_true rfl)
  rw [lg_entry_eq]
  generalize (lg_sl ([.ref (a 0), .int x0]) ++ List.replicate (2 - (lg_sl ([.ref (a 0), .int x0])).length) Slot.unset).toArray = ls at hl ⊢
  have hl : lv_has ls 2 [(0, .ref (a 0)), (1, .int x0)] := hl
  refine lv_iload_n hx hb dX9_isSheet_0 rfl (lv_at hl 1 rfl) ?_
  refine lv_if_lt (tgt := 17) hx hb dX9_isSheet_1 (by decide) (fun c_1 => ?_) (fun c_1 => ?_)
  · refine lv_iconst (v := 0) hx hb dX9_isSheet_17 (by decide) ?_
    exact pret_z hx hb hr hlocks (by rw [w3_lo c_1]; rfl) dX9_isSheet_18
  · refine lv_iload_n hx hb dX9_isSheet_4 rfl (lv_at hl 1 rfl) ?_
    refine lv_aload_n hx hb dX9_isSheet_5 rfl (lv_at hl 0 rfl) ?_
    refine va_get (D := D) (ci := 8) (v := .ref (a 1)) (C := RX9) (T := TX9) (N := 11) hx hb hts hi9 hown hK hP 0 rfl rfl 0 (by decide) hw0 (fun _ h9 => h9) rfl dX9_isSheet_6 ?_
    refine va_alen hx hb hK hP 1 4 rfl rfl (v := 4) rfl dX9_isSheet_9 ?_
    refine lv_icmp_ge (tgt := 17) hx hb dX9_isSheet_10 (by decide) (fun c_2 => ?_) (fun c_2 => ?_)
    · refine lv_iconst (v := 0) hx hb dX9_isSheet_17 (by decide) ?_
      exact pret_z hx hb hr hlocks (by rw [w3_hi c_2]; rfl) dX9_isSheet_18
    · refine lv_iconst (v := 1) hx hb dX9_isSheet_13 (by decide) ?_
      refine lv_goto (tgt := 18) hx hb dX9_isSheet_14 (by decide) ?_
      exact pret_z hx hb hr hlocks (by rw [w3_t c_1 c_2]; rfl) dX9_isSheet_18
