abbrev MS : Type := (Nat → Int64) × (Nat → Int32) × (Nat → Nat → Int32) × (Nat → Nat → Int64)
abbrev CS : Type := (Nat → Int64) × (Nat → Int32) × (Nat → Option Nat) × (Nat → Nat → Int32) × (Nat → Nat → Option Nat)
abbrev MWu (cy : Nat → ClassId) (a : Nat → Nat) (u : MS) : va_W := MW cy a u.1 u.2.1 u.2.2.1 u.2.2.2
abbrev CWu (cy : Nat → ClassId) (a : Nat → Nat) (u : CS) : va_W := CW cy a u.1 u.2.1 u.2.2.1 u.2.2.2.1 u.2.2.2.2
/-- what every call keeps of the model's numbers -/
def isB (x : Int32) : Prop := x = 0 ∨ x = 1
abbrev MI (I : Nat → Int32) (R : Nat → Nat → Int32) : Prop := vp_in (I 1) 21 ∧ isB (I 3) ∧ vp_in (I 12) 21 ∧ (∀ i, i < 20 → vp_in (R 3 i) 21) ∧ (∀ i, i < 20 → isB (R 5 i)) ∧ (∀ i, i < 4 → vp_in (R 9 i) 17)
theorem isB_nar {x : Int32} (h : isB x) : narrow .boolean (.int x) = .int x := by
  rcases h with rfl | rfl <;> decide
theorem isB_fit {x : Int32} (h : isB x) : fits .boolean (.int x) = true := by
  rcases h with rfl | rfl <;> decide
theorem nar_B (x : Int32) : isB (vp_nar .boolean x) := by
  have e : vp_nar .boolean x = x &&& 1 := rfl
  rw [e, pk_and x (m := 1) 1 (by decide)]
  rcases Nat.mod_two_eq_zero_or_one x.toBitVec.toNat with h | h
  · exact Or.inl (by show nI (x.toBitVec.toNat % 2) = 0; rw [h]; rfl)
  · exact Or.inr (by show nI (x.toBitVec.toNat % 2) = 1; rw [h]; rfl)
theorem all_upd {P : Int32 → Prop} {f : Nat → Int32} {n k : Nat} {v : Int32} (h : ∀ i, i < n → P (f i)) (hv : P v) : ∀ i, i < n → P (upd f k v i) := by
  intro i hi
  by_cases e : i = k
  · subst e; rw [pk_us]; exact hv
  · rw [pk_un e]; exact h i hi
theorem all21 {f : Nat → Int32} {n k : Nat} {v : Int32} (h : ∀ i, i < n → vp_in (f i) 21) (hv : vp_in v 21) : ∀ i, i < n → vp_in (upd f k v i) 21 := all_upd (P := fun x => vp_in x 21) h hv
theorem all17 {f : Nat → Int32} {n k : Nat} {v : Int32} (h : ∀ i, i < n → vp_in (f i) 17) (hv : vp_in v 17) : ∀ i, i < n → vp_in (upd f k v i) 17 := all_upd (P := fun x => vp_in x 17) h hv
theorem in_lt {x : Int32} {n : Nat} (h : vp_in x n) : x.toNatClampNeg < n := by
  unfold vp_in at h
  omega
theorem in_ne {x : Int32} (h : vp_in x 21) (h2 : ¬ x = 20) : vp_in x 20 := by
  obtain ⟨j, hj, rfl⟩ := vp_in_of h (by decide)
  have : j ≠ 20 := fun z => h2 (by rw [z]; rfl)
  exact vp_in_nI (by omega) (by decide)
theorem nI_s1 (k : Nat) : nI (k + 1) - 1 = nI k := by
  rw [← nI_1]
  exact Int32.add_sub_cancel _ _
theorem in_pred {x : Int32} (h : vp_in x 21) (h2 : ¬ x = 0) : vp_in (x - 1) 20 := by
  obtain ⟨j, hj, rfl⟩ := vp_in_of h (by decide)
  cases j with
  | zero => exact absurd rfl h2
  | succ j => rw [nI_s1]; exact vp_in_nI (by omega) (by decide)
theorem in_succ {x : Int32} (h : vp_in x 20) : vp_in (x + 1) 21 := by
  obtain ⟨j, hj, rfl⟩ := vp_in_of h (by decide)
  rw [nI_1]; exact vp_in_nI (by omega) (by decide)
theorem in_up {x : Int32} (h : vp_in x 20) : vp_in x 21 := by
  rw [vp_in_iff] at *
  omega
theorem ix20 {k s : Nat} (hk : k < 20) (hs : s < 20) : vp_in ((20 : Int32) * nI k + nI s) 400 := by
  have e : (20 : Int32) * nI k + nI s = nI (20 * k + s) := by rw [← nI_add, ← pk_mul]; rfl
  rw [e]; exact vp_in_nI (by omega) (by decide)
theorem ix20b {x : Int32} {s : Nat} (h : vp_in x 20) (hs : s < 20) : vp_in ((20 : Int32) * x + nI s) 400 := by
  obtain ⟨j, hj, rfl⟩ := vp_in_of h (by decide)
  exact ix20 hj hs
def m_isG (v : Int32) : Bool := decide (v &&& 3 = 1) || decide (v &&& 3 = 2)
def m_acr (v : Int32) : Bool := decide ((v >>> ((8 : Int32) &&& 31)) &&& 1 = 1)
def m_touch (on : Int64) (f : Int32) : Bool := !m_isOn on (f - f / 8 * 8 - 1) (f / 8) || (!m_isOn on (f - f / 8 * 8 + 1) (f / 8) || (!m_isOn on (f - f / 8 * 8) (f / 8 - 1) || !m_isOn on (f - f / 8 * 8) (f / 8 + 1)))
def m_edge (on : Int64) (f : Int32) (b : Bool) : Bool := m_touch on f || m_touch on (f + (if b then 8 else 1))

theorem dX10_finding_0 : decode cX10_finding 0 = .ok (.aload_n 0, 1) := by decide +kernel
theorem dX10_finding_1 : decode cX10_finding 1 = .ok (.dup, 1) := by decide +kernel
theorem dX10_finding_2 : decode cX10_finding 2 = .ok (.getfield 66, 3) := by decide +kernel
theorem dX10_finding_5 : decode cX10_finding 5 = .ok (.iconst 1, 1) := by decide +kernel
theorem dX10_finding_6 : decode cX10_finding 6 = .ok (.iadd, 1) := by decide +kernel
theorem dX10_finding_7 : decode cX10_finding 7 = .ok (.putfield 66, 3) := by decide +kernel
theorem dX10_finding_10 : decode cX10_finding 10 = .ok (.iload_n 1, 1) := by decide +kernel
theorem dX10_finding_11 : decode cX10_finding 11 = .ok (.ireturn, 1) := by decide +kernel
set_option maxRecDepth 20000 in
theorem ihX10_finding_10 : ∀ w ∈ u_ws RX10 TX10 30, w ∈ wsX10_finding := fun _ h => List.mem_cons_of_mem _ (List.mem_append_right _ h)
set_option maxHeartbeats 4000000 in
set_option maxRecDepth 100000 in
theorem c_X10_finding (l : Launch) (D : va_G) (cy : Nat → ClassId) (a : Nat → Nat) (sz : Nat) (J : Nat → Int64) (I : Nat → Int32) (R : Nat → Nat → Int32) (RJ : Nat → Nat → Int64) (x0 : Int32) : Met l yX10_finding wsX10_finding ({ frames := 0, cells := 0, slots := 0, locals := 0 }) (va_Pc [.ref (a 0), .int x0] (PW D cy sz (MW cy a J I R RJ))) (va_Qi (fun r (u : MS) => r = x0 ∧ u = (J, (va_up I 13 ((I 13) + 1)), R, RJ)) (BW D (va_A (MW cy a J I R RJ) sz) (MWu cy a)) (va_A (MW cy a J I R RJ) sz)) 0 0 (va_A (MW cy a J I R RJ) sz) := by
  refine Met.ofW (cc := cX10_finding) (maxL := 2) (ret := (some .int)) (by decide) rfl ?_
  intro p e s m args below meth c s₁ B hml hv
  obtain ⟨rfl, rfl, hP, hK, hN, hD0⟩ := hv
  have hx := B.exec
  have hb := B.bytes
  have hr := B.returns
  have hts := atoms_spec (ws := wsX10_finding) B.pre
  have hown : s.vm.findClass RX10 = some m.cls := findClass_of_methodNamed B.named
  have hlocks := B.notSynchronized
  have hw0 := hts (.fieldLink RX10 66 "ParquetLayerModel" "findings" "I") (by decide +kernel)
  have hi10 := ihX10_finding_10
  have hD := hD0.self (sz := s.heap.size)
  generalize hAe : va_A (MW cy a J I R RJ) s.heap.size = A at hD ⊢
  have hA : ∀ q : Nat, s.heap.size ≤ q → A q := fun q h => by rw [← hAe]; exact Or.inr h
  have hS : va_S A s.heap s.heap [] := va_S.rf
  have hl := lv_entry ([.ref (a 0), .int x0]) (n := 2) (Nat.le_of_ble_eq_true rfl)
  rw [lg_entry_eq]
  generalize (lg_sl ([.ref (a 0), .int x0]) ++ List.replicate (2 - (lg_sl ([.ref (a 0), .int x0])).length) Slot.unset).toArray = ls at hl ⊢
  have hl : lv_has ls 2 [(0, .ref (a 0)), (1, .int x0)] := hl
  refine lv_aload_n hx hb dX10_finding_0 rfl (lv_at hl 0 rfl) ?_
  refine lv_dup hx hb dX10_finding_1 rfl ?_
  refine va_get (D := D) (ci := 9) (v := .int (I 13)) (C := RX10) (T := TX10) (N := 30) hx hb hts hi10 hown hK hP 0 rfl rfl 13 (by decide) hw0 (fun _ h9 => h9) rfl dX10_finding_2 ?_
  refine lv_iconst (v := 1) hx hb dX10_finding_5 (by decide) ?_
  refine lv_iadd hx hb dX10_finding_6 ?_
  refine va_put (D := D) (ci := 9) (v := .int ((I 13) + 1)) (ty := .int) (C := RX10) (T := TX10) (N := 30) hx hb hts hi10 tyX10 tyX10_ok nmX10 hown hK hP hD hS 0 rfl rfl 13 (by decide) hw0 (fun _ h9 => h9) rfl (by decide +kernel) rfl rfl (Nat.le_of_ble_eq_true rfl) dX10_finding_7 (fun H locs hP hD hS => ?_)
  have hP : va_P D vwCl (MW cy a J (va_up I 13 ((I 13) + 1)) R RJ) H := hP
  have hD : va_D A (MW cy a J (va_up I 13 ((I 13) + 1)) R RJ) := hD
  refine lv_iload_n hx hb dX10_finding_10 rfl (lv_at hl 1 rfl) ?_
  exact wret_i hx hb hr hlocks (J, (va_up I 13 ((I 13) + 1)), R, RJ) ⟨rfl, rfl⟩ hP hD hS dX10_finding_11
