/-! ===== a turn that leads nearer ===== -/
/-- the difference of two layings' heights, over the whole frame -/
theorem hcr_no {fl : Int64} {A C : Nat → Bool} (hl : LY (bfx fl) A C) {X Y : Nat} (h : hcr C X Y = true) : mOut fl (10 * Y + X) = false ∧ mOut fl (10 * (Y - 1) + X) = false ∧ 1 ≤ Y := by
  unfold hcr at h
  rw [Bool.and_eq_true, decide_eq_true_iff] at h
  have c := h.2
  have o1 := (g_C hl c).1
  have o2 := g_C8 hl c
  have l := hl.2.1 _ c
  refine ⟨mo_t (by omega) (by omega) (by omega) (by omega) ?_, mo_t (by omega) (by omega) (by omega) (by omega) ?_, by omega⟩
  · rw [show 8 * (Y - 1) + (X - 1) = 8 * (Y - 2) + (X - 1) + 8 by omega]; exact o2
  · rw [show 8 * (Y - 1 - 1) + (X - 1) = 8 * (Y - 2) + (X - 1) by omega]; exact o1
theorem hcl_no {fl : Int64} {A C : Nat → Bool} (hl : LY (bfx fl) A C) {X Y : Nat} (h : hcl A X Y = true) : mOut fl (10 * Y + X) = false ∧ mOut fl (10 * Y + (X - 1)) = false ∧ 1 ≤ X := by
  unfold hcl at h
  rw [Bool.and_eq_true, decide_eq_true_iff] at h
  have c := h.2
  have o1 := (g_A hl c).1
  have o2 := (g_A1 hl c).1
  have l := hl.1 _ c
  refine ⟨mo_t (by omega) (by omega) (by omega) (by omega) ?_, mo_t (by omega) (by omega) (by omega) (by omega) ?_, by omega⟩
  · rw [show 8 * (Y - 1) + (X - 1) = 8 * (Y - 1) + (X - 2) + 1 by omega]; exact o2
  · rw [show 8 * (Y - 1) + (X - 1 - 1) = 8 * (Y - 1) + (X - 2) by omega]; exact o1
section DIF
variable {fl : Int64} {A C A' C' : Nat → Bool}
def dfh (C C' : Nat → Bool) (X Y : Nat) : Int := hwh C' X Y - hwh C X Y
def dfv (A A' : Nat → Bool) (X Y : Nat) : Int := hwv A' X Y - hwv A X Y
theorem df_o (ha : LY (bfx fl) A C) (hb : LY (bfx fl) A' C') {X Y : Nat} (hM : mOut fl (10 * Y + X) = true) : dfh C C' X Y = 0 ∧ dfh C C' X (Y + 1) = 0 ∧ dfv A A' X Y = 0 ∧ dfv A A' (X + 1) Y = 0 := by
  have n1 : ∀ {A C : Nat → Bool}, LY (bfx fl) A C → hcr C X Y = false := fun {A C} h => by
    cases q : hcr C X Y with
    | false => rfl
    | true => rw [(hcr_no h q).1] at hM; exact absurd hM (by decide)
  have n2 : ∀ {A C : Nat → Bool}, LY (bfx fl) A C → hcr C X (Y + 1) = false := fun {A C} h => by
    cases q : hcr C X (Y + 1) with
    | false => rfl
    | true =>
      have z := (hcr_no h q).2.1
      rw [Nat.add_sub_cancel, hM] at z
      exact absurd z (by decide)
  have n3 : ∀ {A C : Nat → Bool}, LY (bfx fl) A C → hcl A X Y = false := fun {A C} h => by
    cases q : hcl A X Y with
    | false => rfl
    | true => rw [(hcl_no h q).1] at hM; exact absurd hM (by decide)
  have n4 : ∀ {A C : Nat → Bool}, LY (bfx fl) A C → hcl A (X + 1) Y = false := fun {A C} h => by
    cases q : hcl A (X + 1) Y with
    | false => rfl
    | true =>
      have z := (hcl_no h q).2.1
      rw [Nat.add_sub_cancel, hM] at z
      exact absurd z (by decide)
  unfold dfh dfv hwh hwv
  rw [n1 ha, n1 hb, n2 ha, n2 hb, n3 ha, n3 hb, n4 ha, n4 hb]
  exact ⟨Int.sub_self _, Int.sub_self _, Int.sub_self _, Int.sub_self _⟩
theorem df_c (ha : LY (bfx fl) A C) (hb : LY (bfx fl) A' C') {X Y : Nat} (hX : X < 10) (hY : Y < 10) : hcu (dfh C C') (dfv A A') X Y = 0 := by
  cases hM : mOut fl (10 * Y + X) with
  | true =>
    obtain ⟨a, b, c, d⟩ := df_o ha hb hM
    unfold hcu
    rw [a, b, c, d]
    rfl
  | false =>
    obtain ⟨x1, x8, y1, y8, ho⟩ := mo_f hX hY hM
    have e1 := hw_0 ha x1 x8 y1 y8 ho
    have e2 := hw_0 hb x1 x8 y1 y8 ho
    unfold hcu at e1 e2 ⊢
    unfold dfh dfv
    omega
def dP (A C A' C' : Nat → Bool) (X Y : Nat) : Int := hPot (dfh C C') (dfv A A') X Y
theorem dP_h (ha : LY (bfx fl) A C) (hb : LY (bfx fl) A' C') {X Y : Nat} (hX : X < 10) (hY : Y ≤ 10) : dP A C A' C' (X + 1) Y - dP A C A' C' X Y = dfh C C' X Y := hP_h (fun _ _ h1 h2 => df_c ha hb h1 h2) hX Y hY
theorem dP_v {X Y : Nat} : dP A C A' C' X (Y + 1) - dP A C A' C' X Y = dfv A A' X Y := hP_v _ _ X Y
/-- the four corners of a place outside -/
theorem dP_4 (ha : LY (bfx fl) A C) (hb : LY (bfx fl) A' C') {X Y : Nat} (hX : X < 10) (hY : Y < 10) (hM : mOut fl (10 * Y + X) = true) : dP A C A' C' (X + 1) Y = dP A C A' C' X Y ∧ dP A C A' C' X (Y + 1) = dP A C A' C' X Y ∧ dP A C A' C' (X + 1) (Y + 1) = dP A C A' C' X Y := by
  obtain ⟨a, b, c, d⟩ := df_o ha hb hM
  have e1 := dP_h ha hb (X := X) (Y := Y) hX (by omega)
  have e2 := dP_h ha hb (X := X) (Y := Y + 1) hX (by omega)
  have e3 := dP_v (A := A) (C := C) (A' := A') (C' := C') (X := X) (Y := Y)
  rw [a] at e1
  rw [b] at e2
  rw [c] at e3
  exact ⟨by omega, by omega, by omega⟩
theorem dP_0 (hw : cFr (mOut fl) A10 100 = 1) (ha : LY (bfx fl) A C) (hb : LY (bfx fl) A' C') {X Y : Nat} (hX : X < 10) (hY : Y < 10) (hM : mOut fl (10 * Y + X) = true) : dP A C A' C' X Y = 0 := by
  have h0 : mOut fl 0 = true := rfl
  have r := sc_two h0 hw (10 * Y + X) (by omega) hM
  have k := r (fun p => mOut fl p = true ∧ p < 100 ∧ dP A C A' C' (p % 10) (p / 10) = 0) ⟨h0, by decide, rfl⟩ (fun a b za hb2 hA => ?_)
  · have z := k.2.2
    rw [show (10 * Y + X) % 10 = X by omega, show (10 * Y + X) / 10 = Y by omega] at z
    exact z
  · obtain ⟨la, lb⟩ := A10_lt hA
    refine ⟨hb2, lb, ?_⟩
    have ca := dP_4 ha hb (X := a % 10) (Y := a / 10) (by omega) (by omega) (by rw [show 10 * (a / 10) + a % 10 = a by omega]; exact za.1)
    have cb := dP_4 ha hb (X := b % 10) (Y := b / 10) (by omega) (by omega) (by rw [show 10 * (b / 10) + b % 10 = b by omega]; exact hb2)
    have z := za.2.2
    unfold A10 at hA
    simp only [Bool.and_eq_true, Bool.or_eq_true, decide_eq_true_iff] at hA
    rcases hA.2.2 with ⟨e, e2⟩ | ⟨e, e2⟩ | e | e
    · rw [show b % 10 = a % 10 + 1 by omega, show b / 10 = a / 10 by omega, ca.1]; exact z
    · rw [show a % 10 = b % 10 + 1 by omega, show a / 10 = b / 10 by omega, cb.1] at z; exact z
    · rw [show b % 10 = a % 10 by omega, show b / 10 = a / 10 + 1 by omega, ca.2.1]; exact z
    · rw [show a % 10 = b % 10 by omega, show a / 10 = b / 10 + 1 by omega, cb.2.1] at z; exact z
end DIF
section DIH
variable {fl al ac bl bc : Int64}
theorem dP_in (hw : cFr (mOut fl) A10 100 = 1 ∧ aPc fl = 1) (ha : LY (bfx fl) (bfx al) (bfx ac)) (hb : LY (bfx fl) (bfx bl) (bfx bc)) {p : Nat} (hp : p < 81) (h : hpt (bfx fl) p = true) : hIn fl bl bc p - hIn fl al ac p = dP (bfx al) (bfx ac) (bfx bl) (bfx bc) (p % 9 + 1) (p / 9 + 1) := by
  have Ha := zH_t hw.1 ha
  have Hb := zH_t hw.1 hb
  have f0 := zF0_t hw.2
  have tl := tl_m (zF0 fl)
  have l0 := f0.1
  have z0 : dP (bfx al) (bfx ac) (bfx bl) (bfx bc) (hTL (zF0 fl) % 9 + 1) (hTL (zF0 fl) / 9 + 1) = 0 := by
    rw [tl.1, tl.2]
    have hM : mOut fl (10 * (zF0 fl / 8) + (zF0 fl % 8 + 1)) = true := by
      unfold mOut
      by_cases q : 8 ≤ zF0 fl
      · have e : i10 (10 * (zF0 fl / 8) + (zF0 fl % 8 + 1)) = zF0 fl - 8 := by unfold i10; omega
        rw [e, f0.2.2 (zF0 fl - 8) (by omega), Bool.not_false, Bool.or_true]
      · have e : rng (10 * (zF0 fl / 8) + (zF0 fl % 8 + 1)) = true := by
          unfold rng
          rw [decide_eq_true (show 10 * (zF0 fl / 8) + (zF0 fl % 8 + 1) < 10 by omega), Bool.true_or]
        rw [e, Bool.true_or]
    have c := dP_4 ha hb (X := zF0 fl % 8 + 1) (Y := zF0 fl / 8) (by omega) (by omega) hM
    rw [c.2.1]
    exact dP_0 hw.1 ha hb (by omega) (by omega) hM
  have K : hclK (bfx fl) (bfx al) (bfx ac) (fun p => hIn fl bl bc p - hIn fl al ac p = dP (bfx al) (bfx ac) (bfx bl) (bfx bc) (p % 9 + 1) (p / 9 + 1)) := by
    refine ⟨fun p hp h8 ho => ?_, fun p hp h8 ho => ?_⟩
    · unfold hrE at ho
      rw [Bool.and_eq_true] at ho
      have e1 := zG_r Ha h8 hp ho.1
      have e2 := zG_r Hb h8 hp ho.1
      have e3 := dP_h ha hb (X := p % 9 + 1) (Y := p / 9 + 1) (by omega) (by omega)
      unfold dfh hwh at e3
      rw [hcr_U h8 (by omega), hcr_U h8 (by omega), show p % 9 + 1 + (p / 9 + 1) = p % 9 + p / 9 + 2 by omega, hsg_2] at e3
      dsimp only
      rw [show (p + 1) % 9 = p % 9 + 1 by omega, show (p + 1) / 9 = p / 9 by omega]
      unfold hIn
      omega
    · unfold hdE at ho
      rw [Bool.and_eq_true] at ho
      have e1 := zG_d Ha h8 ho.1
      have e2 := zG_d Hb h8 ho.1
      have e3 := dP_v (A := bfx al) (C := bfx ac) (A' := bfx bl) (C' := bfx bc) (X := p % 9 + 1) (Y := p / 9 + 1)
      unfold dfv hwv at e3
      rw [hcl_L (by omega) h8, hcl_L (by omega) h8, show p % 9 + 1 + (p / 9 + 1) = p % 9 + p / 9 + 2 by omega, hsg_2] at e3
      dsimp only
      rw [show (p + 9) % 9 = p % 9 by omega, show (p + 9) / 9 = p / 9 + 1 by omega]
      unfold hIn
      omega
  refine hK_pt ha K hw.2 f0.2.1 f0.2.2 ?_ hp h
  rw [z0]
  unfold hIn
  omega
/-- heights that differ belong to a point amid four fields -/
theorem d_amid (hw : cFr (mOut fl) A10 100 = 1 ∧ aPc fl = 1) (ha : LY (bfx fl) (bfx al) (bfx ac)) (hb : LY (bfx fl) (bfx bl) (bfx bc)) {p : Nat} (hp : p < 81) (h : hpt (bfx fl) p = true) (hne : ¬ hIn fl al ac p = hIn fl bl bc p) : ∃ f, f % 8 < 7 ∧ f < 55 ∧ p = hTL f + 10 ∧ bfx fl f = true ∧ bfx fl (f + 1) = true ∧ bfx fl (f + 8) = true ∧ bfx fl (f + 9) = true := by
  have e := dP_in hw ha hb hp h
  have no : ∀ X Y, X < 10 → Y < 10 → (X = p % 9 ∨ X = p % 9 + 1) → (Y = p / 9 ∨ Y = p / 9 + 1) → mOut fl (10 * Y + X) = false := by
    intro X Y hX hY ex ey
    cases q : mOut fl (10 * Y + X) with
    | false => rfl
    | true =>
      exfalso
      have z := dP_0 hw.1 ha hb hX hY q
      have c := dP_4 ha hb hX hY q
      have k : dP (bfx al) (bfx ac) (bfx bl) (bfx bc) (p % 9 + 1) (p / 9 + 1) = 0 := by
        rcases ex with ex | ex <;> rcases ey with ey | ey
        · rw [← ex, ← ey, c.2.2]; exact z
        · rw [← ex, ← ey, c.1]; exact z
        · rw [← ex, ← ey, c.2.1]; exact z
        · rw [← ex, ← ey]; exact z
      rw [k] at e
      exact hne (by omega)
  obtain ⟨a1, a2, a3, a4, a5⟩ := mo_f (by omega) (by omega) (no (p % 9) (p / 9) (by omega) (by omega) (Or.inl rfl) (Or.inl rfl))
  obtain ⟨b1, b2, b3, b4, b5⟩ := mo_f (by omega) (by omega) (no (p % 9 + 1) (p / 9) (by omega) (by omega) (Or.inr rfl) (Or.inl rfl))
  obtain ⟨c1, c2, c3, c4, c5⟩ := mo_f (by omega) (by omega) (no (p % 9) (p / 9 + 1) (by omega) (by omega) (Or.inl rfl) (Or.inr rfl))
  obtain ⟨d1, d2, d3, d4, d5⟩ := mo_f (by omega) (by omega) (no (p % 9 + 1) (p / 9 + 1) (by omega) (by omega) (Or.inr rfl) (Or.inr rfl))
  refine ⟨8 * (p / 9 - 1) + (p % 9 - 1), by omega, by omega, by unfold hTL; omega, a5, ?_, ?_, ?_⟩
  · rw [show 8 * (p / 9 - 1) + (p % 9 - 1) + 1 = 8 * (p / 9 - 1) + (p % 9 + 1 - 1) by omega]; exact b5
  · rw [show 8 * (p / 9 - 1) + (p % 9 - 1) + 8 = 8 * (p / 9 + 1 - 1) + (p % 9 - 1) by omega]; exact c5
  · rw [show 8 * (p / 9 - 1) + (p % 9 - 1) + 9 = 8 * (p / 9 + 1 - 1) + (p % 9 + 1 - 1) by omega]; exact d5
end DIH
