/-! ===== what hangs together ===== -/
def rch (M : Nat → Bool) (A : Nat → Nat → Bool) (p q : Nat) : Prop := ∀ C : Nat → Prop, C p → (∀ a b, C a → M b = true → A a b = true → C b) → C q
section RCH
variable {M : Nat → Bool} {A : Nat → Nat → Bool} {p q r a b : Nat}
theorem rch_r : rch M A p p := fun _ h _ => h
theorem rch_s (h : rch M A p a) (hM : M b = true) (hA : A a b = true) : rch M A p b := fun C hp hc => hc a b (h C hp hc) hM hA
theorem rch_t (h : rch M A p q) (h2 : rch M A q r) : rch M A p r := fun C hp hc => h2 C (h C hp hc) hc
theorem rch_M (h : rch M A p q) (hp : M p = true) : M q = true := h (fun x => M x = true) hp (fun _ _ _ hM _ => hM)
/-- the first of its piece -/
def frs (M : Nat → Bool) (A : Nat → Nat → Bool) (p : Nat) : Prop := M p = true ∧ ∀ p', p' < p → M p' = true → ¬ rch M A p' p
noncomputable def cFr (M : Nat → Bool) (A : Nat → Nat → Bool) : Nat → Nat
  | 0 => 0
  | p + 1 => cFr M A p + @ite Nat (frs M A p) (Classical.propDecidable _) 1 0
theorem cFr_y (h : frs M A p) : cFr M A (p + 1) = cFr M A p + 1 := by
  show cFr M A p + @ite Nat (frs M A p) (Classical.propDecidable _) 1 0 = _
  rw [if_pos h]
theorem cFr_n (h : ¬ frs M A p) : cFr M A (p + 1) = cFr M A p := by
  show cFr M A p + @ite Nat (frs M A p) (Classical.propDecidable _) 1 0 = _
  rw [if_neg h]
  rfl
/-- the scan has come to p: met is what hangs on those ahead -/
def scI (M : Nat → Bool) (A : Nat → Nat → Bool) (met : Nat → Prop) (p : Nat) : Prop := (∀ a b, met a → M b = true → A a b = true → met b) ∧ (∀ q, q < p → M q = true → met q) ∧ ∀ q, met q → ∃ p', p' < p ∧ M p' = true ∧ rch M A p' q
theorem sc_0 {met : Nat → Prop} (h : ∀ q, ¬ met q) : scI M A met 0 := ⟨fun a _ h1 => absurd h1 (h a), fun q hq => absurd hq (Nat.not_lt_zero q), fun q h1 => absurd h1 (h q)⟩
theorem sc_met {met : Nat → Prop} (h : scI M A met p) (hm : met p) : scI M A met (p + 1) ∧ cFr M A (p + 1) = cFr M A p := by
  refine ⟨⟨h.1, fun q hq hM => ?_, fun q hq => ?_⟩, cFr_n (fun z => ?_)⟩
  · by_cases e : q = p
    · rw [e]; exact hm
    · exact h.2.1 q (by omega) hM
  · obtain ⟨p', h1, h2, h3⟩ := h.2.2 q hq
    exact ⟨p', by omega, h2, h3⟩
  · obtain ⟨p', h1, h2, h3⟩ := h.2.2 p hm
    exact z.2 p' h1 h2 h3
theorem sc_out {met : Nat → Prop} (h : scI M A met p) (hM : M p = false) : scI M A met (p + 1) ∧ cFr M A (p + 1) = cFr M A p := by
  refine ⟨⟨h.1, fun q hq hq2 => ?_, fun q hq => ?_⟩, cFr_n (fun z => ?_)⟩
  · by_cases e : q = p
    · rw [e, hM] at hq2; exact absurd hq2 (by decide)
    · exact h.2.1 q (by omega) hq2
  · obtain ⟨p', h1, h2, h3⟩ := h.2.2 q hq
    exact ⟨p', by omega, h2, h3⟩
  · exact absurd (hM.symm.trans z.1) (by decide)
theorem sc_new {met met' : Nat → Prop} (h : scI M A met p) (hM : M p = true) (hm : ¬ met p) (h1 : ∀ q, met q → met' q) (h2 : met' p) (h3 : ∀ q, met' q → met q ∨ rch M A p q) (h4 : ∀ a b, met' a → M b = true → A a b = true → met' b) : scI M A met' (p + 1) ∧ cFr M A (p + 1) = cFr M A p + 1 := by
  refine ⟨⟨h4, fun q hq hq2 => ?_, fun q hq => ?_⟩, cFr_y ⟨hM, fun p' hp hM' z => ?_⟩⟩
  · by_cases e : q = p
    · rw [e]; exact h2
    · exact h1 q (h.2.1 q (by omega) hq2)
  · rcases h3 q hq with z | z
    · obtain ⟨p', k1, k2, k3⟩ := h.2.2 q z
      exact ⟨p', by omega, k2, k3⟩
    · exact ⟨p, by omega, hM, z⟩
  · exact hm (z met (h.2.1 p' hp hM') h.1)
theorem sc_one (h0 : M 0 = true) {n : Nat} (hn : 0 < n) (hall : ∀ q, q < n → M q = true → rch M A 0 q) : cFr M A n = 1 := by
  induction n with
  | zero => exact absurd hn (Nat.lt_irrefl 0)
  | succ n ih =>
    cases n with
    | zero => rw [cFr_y ⟨h0, fun p' hp => absurd hp (Nat.not_lt_zero p')⟩]; rfl
    | succ n =>
      rw [cFr_n (fun z => z.2 0 (by omega) h0 (hall (n + 1) (by omega) z.1))]
      exact ih (by omega) (fun q hq hM => hall q (by omega) hM)
theorem cFr_mono {m n : Nat} (h : m ≤ n) : cFr M A m ≤ cFr M A n := by
  induction n with
  | zero => rw [Nat.le_zero.mp h]; exact Nat.le_refl _
  | succ n ih =>
    rcases Nat.lt_or_ge m (n + 1) with z | z
    · exact Nat.le_trans (ih (by omega)) (Nat.le_add_right _ _)
    · rw [Nat.le_antisymm h z]; exact Nat.le_refl _
theorem sc_two (h0 : M 0 = true) {n : Nat} (hc : cFr M A n = 1) : ∀ q, q < n → M q = true → rch M A 0 q := by
  intro q
  induction q using Nat.strongRecOn with
  | ind q ih =>
    intro hq hM
    apply Classical.byContradiction
    intro hno
    have hf : frs M A q := ⟨hM, fun p' hp hM' z => hno (rch_t (ih p' hp (by omega) hM') z)⟩
    cases q with
    | zero => exact hno rch_r
    | succ q =>
      have c1 : 1 ≤ cFr M A (q + 1) := by
        have : cFr M A 1 = 1 := by rw [cFr_y ⟨h0, fun p' hp => absurd hp (Nat.not_lt_zero p')⟩]; rfl
        rw [← this]
        exact cFr_mono (by omega)
      have c2 := cFr_y hf
      have c3 := cFr_mono (M := M) (A := A) (m := q + 1 + 1) (n := n) (by omega)
      omega
end RCH
/-! the two grids -/
def A8 (a b : Nat) : Bool := decide (a < 64) && (decide (b < 64) && ((decide (b = a + 1) && decide (a % 8 < 7)) || ((decide (a = b + 1) && decide (b % 8 < 7)) || (decide (b = a + 8) || decide (a = b + 8)))))
def A10 (a b : Nat) : Bool := decide (a < 100) && (decide (b < 100) && ((decide (b = a + 1) && decide (a % 10 < 9)) || ((decide (a = b + 1) && decide (b % 10 < 9)) || (decide (b = a + 10) || decide (a = b + 10)))))
def e10 (f : Nat) : Nat := 10 * (f / 8 + 1) + (f % 8 + 1)
def rng (p : Nat) : Bool := decide (p < 10) || (decide (90 ≤ p) || (decide (p % 10 = 0) || decide (p % 10 = 9)))
def i10 (p : Nat) : Nat := 8 * (p / 10 - 1) + (p % 10 - 1)
theorem e_lt {f : Nat} (h : f < 64) : e10 f < 100 ∧ rng (e10 f) = false ∧ i10 (e10 f) = f := by
  unfold e10 rng i10
  refine ⟨by omega, ?_, by omega⟩
  rw [decide_eq_false (by omega), decide_eq_false (by omega), decide_eq_false (by omega), decide_eq_false (by omega)]
  rfl
theorem i_lt {p : Nat} (h : p < 100) (hr : rng p = false) : i10 p < 64 ∧ e10 (i10 p) = p := by
  unfold rng at hr
  rw [Bool.or_eq_false_iff, Bool.or_eq_false_iff, Bool.or_eq_false_iff, decide_eq_false_iff_not, decide_eq_false_iff_not, decide_eq_false_iff_not, decide_eq_false_iff_not] at hr
  unfold i10 e10
  omega
theorem e_mono {f g : Nat} (h : f < g) : e10 f < e10 g := by unfold e10; omega
theorem e_inj {f g : Nat} (h : e10 f = e10 g) : f = g := by
  rcases Nat.lt_trichotomy f g with z | z | z
  · have := e_mono z; omega
  · exact z
  · have := e_mono z; omega
theorem A_up : ∀ a b : Fin 64, A10 (e10 a.val) (e10 b.val) = A8 a.val b.val := by decide +kernel
theorem A10_lt {a b : Nat} (h : A10 a b = true) : a < 100 ∧ b < 100 := by
  unfold A10 at h
  rw [Bool.and_eq_true, Bool.and_eq_true, decide_eq_true_iff, decide_eq_true_iff] at h
  exact ⟨h.1, h.2.1⟩
theorem A8_lt {a b : Nat} (h : A8 a b = true) : a < 64 ∧ b < 64 := by
  unfold A8 at h
  rw [Bool.and_eq_true, Bool.and_eq_true, decide_eq_true_iff, decide_eq_true_iff] at h
  exact ⟨h.1, h.2.1⟩
theorem A8_sym (a b : Nat) : A8 a b = A8 b a := by
  have e : ∀ a b, A8 a b = true → A8 b a = true := by
    intro a b h
    unfold A8 at h ⊢
    simp only [Bool.and_eq_true, Bool.or_eq_true, decide_eq_true_iff] at h ⊢
    omega
  cases h : A8 a b with
  | true => exact (e a b h).symm
  | false =>
    cases h2 : A8 b a with
    | false => rfl
    | true => rw [e b a h2] at h; exact absurd h (by decide)
section TWO
variable {m8 m10 : Nat → Bool}
theorem r_up (hm : ∀ f, f < 64 → m10 (e10 f) = m8 f) {f g : Nat} (hf : f < 64) (h : rch m8 A8 f g) : rch m10 A10 (e10 f) (e10 g) := by
  intro C hp hc
  refine h (fun x => C (e10 x)) hp (fun a b ha hM hA => hc _ _ ha ?_ ?_)
  · rw [hm b (A8_lt hA).2]; exact hM
  · have l := A8_lt hA
    rw [A_up ⟨a, l.1⟩ ⟨b, l.2⟩]; exact hA
theorem r_dn (hm : ∀ f, f < 64 → m10 (e10 f) = m8 f) (hr : ∀ p, rng p = true → m10 p = false) {f g : Nat} (hf : f < 64) (hg : g < 64) (h : rch m10 A10 (e10 f) (e10 g)) : rch m8 A8 f g := by
  intro C hp hc
  obtain ⟨x, hx, ex, cx⟩ := h (fun p => ∃ x, x < 64 ∧ p = e10 x ∧ C x) ⟨f, hf, rfl, hp⟩ (fun a b ha hM hA => by
    obtain ⟨x, hx, rfl, cx⟩ := ha
    have l := A10_lt hA
    have rb : rng b = false := by
      cases q : rng b with
      | false => rfl
      | true => rw [hr b q] at hM; exact absurd hM (by decide)
    obtain ⟨i1, i2⟩ := i_lt l.2 rb
    refine ⟨i10 b, i1, i2.symm, hc x (i10 b) cx ?_ ?_⟩
    · rw [← hm _ i1, i2]; exact hM
    · have z := A_up ⟨x, hx⟩ ⟨i10 b, i1⟩
      dsimp only at z
      rw [← z, i2]; exact hA)
  rw [e_inj ex]
  exact cx
theorem f_up (hm : ∀ f, f < 64 → m10 (e10 f) = m8 f) (hr : ∀ p, rng p = true → m10 p = false) {f : Nat} (hf : f < 64) : frs m10 A10 (e10 f) ↔ frs m8 A8 f := by
  constructor
  · intro h
    refine ⟨by rw [← hm f hf]; exact h.1, fun p hp hM z => h.2 (e10 p) (e_mono hp) (by rw [hm p (by omega)]; exact hM) (r_up hm (by omega) z)⟩
  · intro h
    refine ⟨by rw [hm f hf]; exact h.1, fun p hp hM z => ?_⟩
    have rp : rng p = false := by
      cases q : rng p with
      | false => rfl
      | true => rw [hr p q] at hM; exact absurd hM (by decide)
    have l := (e_lt hf).1
    obtain ⟨i1, i2⟩ := i_lt (show p < 100 by omega) rp
    rw [← i2] at hp hM z
    have lt : i10 p < f := by
      rcases Nat.lt_or_ge (i10 p) f with y | y
      · exact y
      · rcases Nat.eq_or_lt_of_le y with y | y
        · rw [y] at hp; omega
        · have := e_mono y; omega
    exact h.2 (i10 p) lt (by rw [← hm _ i1]; exact hM) (r_dn hm hr i1 hf z)
def k10 (p : Nat) : Nat := if p < 10 then 0 else if 90 ≤ p then 64 else 8 * (p / 10 - 1) + (if p % 10 = 0 then 0 else if p % 10 = 9 then 8 else p % 10 - 1)
theorem k_ring : ∀ p : Fin 100, rng p.val = true → k10 (p.val + 1) = k10 p.val := by decide +kernel
theorem k_in : ∀ p : Fin 100, rng p.val = false → k10 (p.val + 1) = k10 p.val + 1 ∧ k10 p.val < 64 ∧ e10 (k10 p.val) = p.val := by decide +kernel
theorem cnt_up (hm : ∀ f, f < 64 → m10 (e10 f) = m8 f) (hr : ∀ p, rng p = true → m10 p = false) : ∀ p, p ≤ 100 → cFr m10 A10 p = cFr m8 A8 (k10 p)
  | 0, _ => rfl
  | p + 1, h => by
    have ih := cnt_up hm hr p (by omega)
    cases q : rng p with
    | true =>
      have k := k_ring ⟨p, by omega⟩ q
      dsimp only at k
      rw [k, cFr_n (fun z => by rw [frs, hr p q] at z; exact absurd z.1 (by decide)), ih]
    | false =>
      obtain ⟨k1, k2, k3⟩ := k_in ⟨p, by omega⟩ q
      dsimp only at k1 k2 k3
      have fu := f_up hm hr k2
      rw [k3] at fu
      rw [k1]
      by_cases z : frs m8 A8 (k10 p)
      · rw [cFr_y z, cFr_y (fu.mpr z), ih]
      · rw [cFr_n z, cFr_n (fun y => z (fu.mp y)), ih]
theorem cnt_100 (hm : ∀ f, f < 64 → m10 (e10 f) = m8 f) (hr : ∀ p, rng p = true → m10 p = false) : cFr m10 A10 100 = cFr m8 A8 64 := cnt_up hm hr 100 (Nat.le_refl _)
end TWO
