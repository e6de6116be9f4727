abbrev MS : Type := (Nat → Int64) × (Nat → Int32) × (Nat → Nat → Int32) × (Nat → Nat → Int64)
abbrev CS : Type := (Nat → Int64) × (Nat → Int32) × (Nat → Option Nat) × (Nat → Nat → Int32) × (Nat → Nat → Option Nat)
abbrev MWu (cy : Nat → ClassId) (a : Nat → Nat) (u : MS) : va_W := MW cy a u.1 u.2.1 u.2.2.1 u.2.2.2
abbrev CWu (cy : Nat → ClassId) (a : Nat → Nat) (u : CS) : va_W := CW cy a u.1 u.2.1 u.2.2.1 u.2.2.2.1 u.2.2.2.2
theorem dX10_finding_0 : decode cX10_finding 0 = .ok (.aload_n 0, 1) := by decide +kernel
theorem dX10_finding_1 : decode cX10_finding 1 = .ok (.dup, 1) := by decide +kernel
theorem dX10_finding_2 : decode cX10_finding 2 = .ok (.getfield 66, 3) := by decide +kernel
theorem dX10_finding_5 : decode cX10_finding 5 = .ok (.iconst 1, 1) := by decide +kernel
theorem dX10_finding_6 : decode cX10_finding 6 = .ok (.iadd, 1) := by decide +kernel
theorem dX10_finding_7 : decode cX10_finding 7 = .ok (.putfield 66, 3) := by decide +kernel
theorem dX10_finding_10 : decode cX10_finding 10 = .ok (.iload_n 1, 1) := by decide +kernel
theorem dX10_finding_11 : decode cX10_finding 11 = .ok (.ireturn, 1) := by decide +kernel
set_option maxRecDepth 20000 in
theorem ihX10_finding_10 : ∀ w ∈ u_ws RX10 TX10 30, w ∈ wsX10_finding := by decide +kernel
set_option maxHeartbeats 4000000 in
set_option maxRecDepth 100000 in
theorem c_X10_finding (l : Launch) (D : va_G) (cy : Nat → ClassId) (a : Nat → Nat) (sz : Nat) (J : Nat → Int64) (I : Nat → Int32) (R : Nat → Nat → Int32) (RJ : Nat → Nat → Int64) (x0 : Int32) : Met l yX10_finding wsX10_finding ({ frames := 0, cells := 0, slots := 0, locals := 0 }) (va_Pc [.ref (a 0), .int x0] (PW D cy sz (MW cy a J I R RJ))) (va_Qi (fun r (u : MS) => r = x0 ∧ u = (J, (va_up I 13 ((I 13) + 1)), R, RJ)) (BW D (va_A (MW cy a J I R RJ) sz) (MWu cy a)) (va_A (MW cy a J I R RJ) sz)) 0 0 (va_A (MW cy a J I R RJ) sz) := by
  refine Met.ofW (cc := cX10_finding) (maxL := 2) (ret := (some .int)) (by decide) rfl ?_
  intro p e s m args below meth c s₁ B hml hv
  obtain ⟨rfl, rfl, hP, hK, hN, hD0⟩ := hv
  have hx := B.exec
  have hb := B.bytes
  have hr := B.returns
  have hts := atoms_spec (ws := wsX10_finding) B.pre
  have hown : s.vm.findClass RX10 = some m.cls := findClass_of_methodNamed B.named
  have hlocks := B.notSynchronized
  have hw0 := hts (.fieldLink RX10 66 "ParquetLayerModel" "findings" "I") (by decide +kernel)
  have hi10 := ihX10_finding_10
  have hD := hD0.self (sz := s.heap.size)
  generalize hAe : va_A (MW cy a J I R RJ) s.heap.size = A at hD ⊢
  have hA : ∀ q : Nat, s.heap.size ≤ q → A q := fun q h => by rw [← hAe]; exact Or.inr h
  have hS : va_S A s.heap s.heap [] := va_S.rf
  have hl := lv_entry ([.ref (a 0), .int x0]) (n := 2) (Nat.le_of_ble_eq_true rfl)
  rw [lg_entry_eq]
  generalize (lg_sl ([.ref (a 0), .int x0]) ++ List.replicate (2 - (lg_sl ([.ref (a 0), .int x0])).length) Slot.unset).toArray = ls at hl ⊢
  have hl : lv_has ls 2 [(0, .ref (a 0)), (1, .int x0)] := hl
  refine lv_aload_n hx hb dX10_finding_0 rfl (lv_at hl 0 rfl) ?_
  refine lv_dup hx hb dX10_finding_1 rfl ?_
  refine va_get (D := D) (ci := 9) (v := .int (I 13)) (C := RX10) (T := TX10) (N := 30) hx hb hts hi10 hown hK hP 0 rfl rfl 13 (by decide) hw0 (fun _ h9 => h9) rfl dX10_finding_2 ?_
  refine lv_iconst (v := 1) hx hb dX10_finding_5 (by decide) ?_
  refine lv_iadd hx hb dX10_finding_6 ?_
  refine va_put (D := D) (ci := 9) (v := .int ((I 13) + 1)) (ty := .int) (C := RX10) (T := TX10) (N := 30) hx hb hts hi10 tyX10 tyX10_ok nmX10 hown hK hP hD hS 0 rfl rfl 13 (by decide) hw0 (fun _ h9 => h9) rfl (by decide +kernel) rfl rfl (Nat.le_of_ble_eq_true rfl) dX10_finding_7 (fun H locs hP hD hS => ?_)
  have hP : va_P D vwCl (MW cy a J (va_up I 13 ((I 13) + 1)) R RJ) H := hP
  have hD : va_D A (MW cy a J (va_up I 13 ((I 13) + 1)) R RJ) := hD
  refine lv_iload_n hx hb dX10_finding_10 rfl (lv_at hl 1 rfl) ?_
  exact wret_i hx hb hr hlocks (J, (va_up I 13 ((I 13) + 1)), R, RJ) ⟨rfl, rfl⟩ hP hD hS dX10_finding_11
theorem dX9_finding_0 : decode cX9_finding 0 = .ok (.aload_n 0, 1) := by decide +kernel
theorem dX9_finding_1 : decode cX9_finding 1 = .ok (.dup, 1) := by decide +kernel
theorem dX9_finding_2 : decode cX9_finding 2 = .ok (.getfield 323, 3) := by decide +kernel
theorem dX9_finding_5 : decode cX9_finding 5 = .ok (.iconst 1, 1) := by decide +kernel
theorem dX9_finding_6 : decode cX9_finding 6 = .ok (.iadd, 1) := by decide +kernel
theorem dX9_finding_7 : decode cX9_finding 7 = .ok (.putfield 323, 3) := by decide +kernel
theorem dX9_finding_10 : decode cX9_finding 10 = .ok (.iload_n 1, 1) := by decide +kernel
theorem dX9_finding_11 : decode cX9_finding 11 = .ok (.ireturn, 1) := by decide +kernel
set_option maxRecDepth 20000 in
theorem ihX9_finding_9 : ∀ w ∈ u_ws RX9 TX9 11, w ∈ wsX9_finding := by decide +kernel
set_option maxHeartbeats 4000000 in
set_option maxRecDepth 100000 in
theorem c_X9_finding (l : Launch) (D : va_G) (cy : Nat → ClassId) (a : Nat → Nat) (sz : Nat) (J : Nat → Int64) (I : Nat → Int32) (O : Nat → Option Nat) (R : Nat → Nat → Int32) (RO : Nat → Nat → Option Nat) (x0 : Int32) : Met l yX9_finding wsX9_finding ({ frames := 0, cells := 0, slots := 0, locals := 0 }) (va_Pc [.ref (a 0), .int x0] (PW D cy sz (CW cy a J I O R RO))) (va_Qi (fun r (u : CS) => r = x0 ∧ u = (J, (va_up I 10 ((I 10) + 1)), O, R, RO)) (BW D (va_A (CW cy a J I O R RO) sz) (CWu cy a)) (va_A (CW cy a J I O R RO) sz)) 0 0 (va_A (CW cy a J I O R RO) sz) := by
  refine Met.ofW (cc := cX9_finding) (maxL := 2) (ret := (some .int)) (by decide) rfl ?_
  intro p e s m args below meth c s₁ B hml hv
  obtain ⟨rfl, rfl, hP, hK, hN, hD0⟩ := hv
  have hx := B.exec
  have hb := B.bytes
  have hr := B.returns
  have hts := atoms_spec (ws := wsX9_finding) B.pre
  have hown : s.vm.findClass RX9 = some m.cls := findClass_of_methodNamed B.named
  have hlocks := B.notSynchronized
  have hw0 := hts (.fieldLink RX9 323 "ParquetLayer" "findings" "I") (by decide +kernel)
  have hi9 := ihX9_finding_9
  have hD := hD0.self (sz := s.heap.size)
  generalize hAe : va_A (CW cy a J I O R RO) s.heap.size = A at hD ⊢
  have hA : ∀ q : Nat, s.heap.size ≤ q → A q := fun q h => by rw [← hAe]; exact Or.inr h
  have hS : va_S A s.heap s.heap [] := va_S.rf
  have hl := lv_entry ([.ref (a 0), .int x0]) (n := 2) (Nat.le_of_ble_eq_true rfl)
  rw [lg_entry_eq]
  generalize (lg_sl ([.ref (a 0), .int x0]) ++ List.replicate (2 - (lg_sl ([.ref (a 0), .int x0])).length) Slot.unset).toArray = ls at hl ⊢
  have hl : lv_has ls 2 [(0, .ref (a 0)), (1, .int x0)] := hl
  refine lv_aload_n hx hb dX9_finding_0 rfl (lv_at hl 0 rfl) ?_
  refine lv_dup hx hb dX9_finding_1 rfl ?_
  refine va_get (D := D) (ci := 8) (v := .int (I 10)) (C := RX9) (T := TX9) (N := 11) hx hb hts hi9 hown hK hP 0 rfl rfl 10 (by decide) hw0 (fun _ h9 => h9) rfl dX9_finding_2 ?_
  refine lv_iconst (v := 1) hx hb dX9_finding_5 (by decide) ?_
  refine lv_iadd hx hb dX9_finding_6 ?_
  refine va_put (D := D) (ci := 8) (v := .int ((I 10) + 1)) (ty := .int) (C := RX9) (T := TX9) (N := 11) hx hb hts hi9 tyX9 tyX9_ok nmX9 hown hK hP hD hS 0 rfl rfl 10 (by decide) hw0 (fun _ h9 => h9) rfl (by decide +kernel) rfl rfl (Nat.le_of_ble_eq_true rfl) dX9_finding_7 (fun H locs hP hD hS => ?_)
  have hP : va_P D vwCl (CW cy a J (va_up I 10 ((I 10) + 1)) O R RO) H := hP
  have hD : va_D A (CW cy a J (va_up I 10 ((I 10) + 1)) O R RO) := hD
  refine lv_iload_n hx hb dX9_finding_10 rfl (lv_at hl 1 rfl) ?_
  exact wret_i hx hb hr hlocks (J, (va_up I 10 ((I 10) + 1)), O, R, RO) ⟨rfl, rfl⟩ hP hD hS dX9_finding_11
