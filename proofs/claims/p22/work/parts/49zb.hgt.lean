/-! ===== points as the reference asks for them ===== -/
theorem wi7_t : ∀ x : Fin 9, m_within (nI x.val) 0 7 = decide (x.val < 8) ∧ m_within (nI x.val - 1) 0 7 = decide (1 ≤ x.val) := by decide +kernel
theorem fxy_t : ∀ x : Fin 8, ∀ y : Fin 8, (8 : Int32) * nI y.val + nI x.val = nI (8 * y.val + x.val) := by decide +kernel
theorem nI_s1' : ∀ x : Fin 9, 1 ≤ x.val → nI x.val - 1 = nI (x.val - 1) := by decide +kernel
theorem mon_B (fl : Int64) {x y : Nat} (hx : x < 9) (hy : y < 9) : m_isOn fl (nI x) (nI y) = onB (bfx fl) x y := by
  unfold m_isOn onB
  rw [(wi7_t ⟨x, hx⟩).1, (wi7_t ⟨y, hy⟩).1]
  by_cases q : x < 8
  · by_cases q2 : y < 8
    · rw [decide_eq_true q, decide_eq_true q2, fxy_t ⟨x, q⟩ ⟨y, q2⟩, hb_bf fl (by dsimp only; omega)]
    · rw [decide_eq_false q2, Bool.false_and, Bool.false_and]
  · rw [decide_eq_false q, Bool.false_and, Bool.false_and]
theorem mon_L (fl : Int64) {x y : Nat} (hx : x < 9) (hy : y < 9) : m_isOn fl (nI x - 1) (nI y) = onL (bfx fl) x y := by
  unfold onL
  by_cases q : 1 ≤ x
  · rw [nI_s1' ⟨x, hx⟩ q, mon_B fl (by dsimp only; omega) hy, decide_eq_true q, Bool.true_and]
  · unfold m_isOn
    rw [(wi7_t ⟨x, hx⟩).2, decide_eq_false q, Bool.false_and, Bool.false_and]
theorem mon_U (fl : Int64) {x y : Nat} (hx : x < 9) (hy : y < 9) : m_isOn fl (nI x) (nI y - 1) = onU (bfx fl) x y := by
  unfold onU
  by_cases q : 1 ≤ y
  · rw [nI_s1' ⟨y, hy⟩ q, mon_B fl hx (by dsimp only; omega), decide_eq_true q, Bool.true_and]
  · unfold m_isOn
    rw [(wi7_t ⟨y, hy⟩).2, decide_eq_false q, Bool.false_and, Bool.false_and, Bool.and_false]
theorem mon_LU (fl : Int64) {x y : Nat} (hx : x < 9) (hy : y < 9) : m_isOn fl (nI x - 1) (nI y - 1) = onLU (bfx fl) x y := by
  unfold onLU
  by_cases q : 1 ≤ x
  · rw [nI_s1' ⟨x, hx⟩ q, mon_U fl (by dsimp only; omega) hy, decide_eq_true q, Bool.true_and]
  · unfold m_isOn
    rw [(wi7_t ⟨x, hx⟩).2, decide_eq_false q, Bool.false_and, Bool.false_and]
theorem p9_t : ∀ p : Fin 81, nI p.val - nI p.val / 9 * 9 = nI (p.val % 9) ∧ nI p.val / 9 = nI (p.val / 9) := by decide +kernel
section MPT
variable {p : Nat}
theorem mpt_eq (fl : Int64) (hp : p < 81) : m_isPoint fl (nI p - nI p / 9 * 9) (nI p / 9) = hpt (bfx fl) p := by
  have e := p9_t ⟨p, hp⟩
  dsimp only at e
  unfold m_isPoint hpt
  rw [e.1, e.2, mon_B fl (by omega) (by omega), mon_L fl (by omega) (by omega), mon_U fl (by omega) (by omega), mon_LU fl (by omega) (by omega)]
theorem mri_eq (fl ac : Int64) (hp : p < 81) : m_right fl ac (nI p - nI p / 9 * 9) (nI p / 9) = hrE (bfx fl) (bfx ac) p := by
  have e := p9_t ⟨p, hp⟩
  dsimp only at e
  unfold m_right hrE
  rw [e.1, e.2, mon_B fl (by omega) (by omega), mon_U fl (by omega) (by omega), mon_U ac (by omega) (by omega)]
theorem mdo_eq (fl al : Int64) (hp : p < 81) : m_down fl al (nI p - nI p / 9 * 9) (nI p / 9) = hdE (bfx fl) (bfx al) p := by
  have e := p9_t ⟨p, hp⟩
  dsimp only at e
  unfold m_down hdE
  rw [e.1, e.2, mon_B fl (by omega) (by omega), mon_L fl (by omega) (by omega), mon_L al (by omega) (by omega)]
end MPT
theorem hr_dk : ∀ p : Fin 81, m_isDark (nI p.val - nI p.val / 9 * 9) (nI p.val / 9 - 1) = decide ((p.val % 9 + p.val / 9) % 2 = 1) := by decide +kernel
theorem hd_dk : ∀ p : Fin 81, m_isDark (nI p.val - nI p.val / 9 * 9) (nI p.val / 9) = decide (¬ (p.val % 9 + p.val / 9) % 2 = 1) := by decide +kernel
theorem hx_8 : ∀ p : Fin 81, ¬ ((8 : Int32) ≤ nI p.val - nI p.val / 9 * 9) → p.val % 9 < 8 := by decide +kernel
theorem hy_8 : ∀ p : Fin 81, ¬ ((8 : Int32) ≤ nI p.val / 9) → p.val / 9 < 8 := by decide +kernel
theorem hx_9' : ∀ p : Fin 81, (8 : Int32) ≤ nI p.val - nI p.val / 9 * 9 → ¬ p.val % 9 < 8 := by decide +kernel
theorem hy_9' : ∀ p : Fin 81, (8 : Int32) ≤ nI p.val / 9 → ¬ p.val / 9 < 8 := by decide +kernel
section HED
variable {on A C : Nat → Bool} {p : Nat}
theorem hrE_pt (hx : p % 9 < 8) (h : hrE on C p = true) : hpt on p = true ∧ hpt on (p + 1) = true := by
  unfold hrE at h
  rw [Bool.and_eq_true, Bool.or_eq_true] at h
  have e1 : (p + 1) % 9 = p % 9 + 1 := by omega
  have e2 : (p + 1) / 9 = p / 9 := by omega
  unfold hpt
  rw [e1, e2]
  rcases h.1 with k | k
  · refine ⟨by rw [k, Bool.true_or, Bool.or_true, Bool.or_true], ?_⟩
    have : onLU on (p % 9 + 1) (p / 9) = true := by unfold onLU; rw [Nat.add_sub_cancel, k, decide_eq_true (show 1 ≤ p % 9 + 1 by omega)]; rfl
    rw [this, Bool.or_true, Bool.or_true, Bool.or_true]
  · refine ⟨by rw [k, Bool.true_or], ?_⟩
    have : onL on (p % 9 + 1) (p / 9) = true := by unfold onL; rw [Nat.add_sub_cancel, k, decide_eq_true (show 1 ≤ p % 9 + 1 by omega)]; rfl
    rw [this, Bool.true_or, Bool.or_true]
theorem hdE_pt (h : hdE on A p = true) : hpt on p = true ∧ hpt on (p + 9) = true := by
  unfold hdE at h
  rw [Bool.and_eq_true, Bool.or_eq_true] at h
  have e1 : (p + 9) % 9 = p % 9 := by omega
  have e2 : (p + 9) / 9 = p / 9 + 1 := by omega
  unfold hpt
  rw [e1, e2]
  rcases h.1 with k | k
  · refine ⟨by rw [k, Bool.true_or, Bool.or_true], ?_⟩
    have : onLU on (p % 9) (p / 9 + 1) = true := by
      have k2 := onL_t k
      unfold onLU onU
      unfold onL at k
      rw [Bool.and_eq_true] at k
      rw [Nat.add_sub_cancel, decide_eq_true k2.1, decide_eq_true (show 1 ≤ p / 9 + 1 by omega), k.2]
      rfl
    rw [this, Bool.or_true, Bool.or_true, Bool.or_true]
  · refine ⟨by rw [k, Bool.true_or], ?_⟩
    have : onU on (p % 9) (p / 9 + 1) = true := by unfold onU; rw [Nat.add_sub_cancel, k, decide_eq_true (show 1 ≤ p / 9 + 1 by omega)]; rfl
    rw [this, Bool.true_or, Bool.or_true, Bool.or_true]
end HED
/-! the reference's spreading -/
def hEd (fl al ac : Int64) (p q : Nat) (y : Int32) : Prop := hpt (bfx fl) p = true ∧ hpt (bfx fl) q = true ∧ zG fl al ac q - zG fl al ac p = y.toInt
theorem hEd_r {fl al ac : Int64} {p : Nat} {y : Int32} (hH : hHt fl (bfx al) (bfx ac) (zH fl al ac)) (hp : p < 81) (hx : ¬ ((8 : Int32) ≤ nI p - nI p / 9 * 9)) (h : m_right fl ac (nI p - nI p / 9 * 9) (nI p / 9) = true) (hy : y = if m_isDark (nI p - nI p / 9 * 9) (nI p / 9 - 1) = true then 1 else -1) : hEd fl al ac p (p + 1) y := by
  have x8 := hx_8 ⟨p, hp⟩ hx
  dsimp only at x8
  rw [mri_eq fl ac hp] at h
  have k := hrE_pt x8 h
  refine ⟨k.1, k.2, ?_⟩
  have e := hr_dk ⟨p, hp⟩
  dsimp only at e
  rw [zG_ro hH x8 hp h, hy, e]
  unfold hsg
  by_cases q : (p % 9 + p / 9) % 2 = 1
  · rw [if_pos q, if_pos (decide_eq_true q)]; rfl
  · rw [if_neg q, if_neg (by rw [decide_eq_false q]; decide)]; rfl
theorem hEd_d {fl al ac : Int64} {p : Nat} {y : Int32} (hH : hHt fl (bfx al) (bfx ac) (zH fl al ac)) (hp : p < 81) (hx : ¬ ((8 : Int32) ≤ nI p / 9)) (h : m_down fl al (nI p - nI p / 9 * 9) (nI p / 9) = true) (hy : y = if m_isDark (nI p - nI p / 9 * 9) (nI p / 9) = true then 1 else -1) : hEd fl al ac p (p + 9) y := by
  have y8 := hy_8 ⟨p, hp⟩ hx
  dsimp only at y8
  rw [mdo_eq fl al hp] at h
  have k := hdE_pt h
  refine ⟨k.1, k.2, ?_⟩
  have e := hd_dk ⟨p, hp⟩
  dsimp only at e
  rw [zG_do hH y8 h, hy, e]
  unfold hsg
  by_cases q : (p % 9 + p / 9) % 2 = 1
  · rw [if_pos q, if_neg (by rw [decide_eq_false (fun z => z q)]; decide)]; rfl
  · rw [if_neg q, if_pos (decide_eq_true q)]; rfl
def hV (fl al ac : Int64) (fp : Nat) (m : Nat → Int32) : Prop := ¬ m fp = 1000000 ∧ ∀ p, p < 81 → ¬ m p = 1000000 → hpt (bfx fl) p = true ∧ (m p).toInt = zG fl al ac p - zG fl al ac fp
def spP (m w : Nat → Int32) (p q : Nat) (y : Int32) (b : Bool) : Prop := (b = true ∧ ((¬ m p = 1000000 ∧ m q = 1000000 ∧ w = upd m q (m p + y)) ∨ (¬ m q = 1000000 ∧ m p = 1000000 ∧ w = upd m p (m q - y)))) ∨ (b = false ∧ w = m ∧ (m p = 1000000 ↔ m q = 1000000))
theorem hV_u {fl al ac : Int64} {fp : Nat} {m : Nat → Int32} {p : Nat} {v : Int32} (h : hV fl al ac fp m) (h0 : m p = 1000000) (hv : hpt (bfx fl) p = true ∧ v.toInt = zG fl al ac p - zG fl al ac fp) : hV fl al ac fp (upd m p v) := by
  have ne : fp ≠ p := fun z => by rw [z] at h; exact h.1 h0
  refine ⟨by rw [pk_un ne]; exact h.1, fun r hr hm => ?_⟩
  by_cases e : r = p
  · subst e
    rw [pk_us]
    exact hv
  · rw [pk_un e] at hm ⊢
    exact h.2 r hr hm
theorem hV_s {fl al ac : Int64} {fp : Nat} {m w : Nat → Int32} {p q : Nat} {y : Int32} {b : Bool} (hB0 : hB m) (h : hV fl al ac fp m) (hp : p < 81) (hq : q < 81) (hy : y = 1 ∨ y = -1) (hd : hEd fl al ac p q y) (hs : spP m w p q y b) : hV fl al ac fp w := by
  rcases hs with ⟨-, ⟨a, c, e⟩ | ⟨a, c, e⟩⟩ | ⟨-, e, -⟩
  · rw [e]
    refine hV_u h c ⟨hd.2.1, ?_⟩
    have k := (h.2 p hp a).2
    have bd := hB_bd hp hB0 a
    have z := hd.2.2
    have e1 : (1 : Int32).toInt = 1 := rfl
    have e2 : (-1 : Int32).toInt = -1 := rfl
    rw [Int32.toInt_add]
    rcases hy with rfl | rfl
    · rw [e1] at z ⊢
      rw [Int.bmod_eq_of_le (by omega) (by omega)]; omega
    · rw [e2] at z ⊢
      rw [Int.bmod_eq_of_le (by omega) (by omega)]; omega
  · rw [e]
    refine hV_u h c ⟨hd.1, ?_⟩
    have k := (h.2 q hq a).2
    have bd := hB_bd hq hB0 a
    have z := hd.2.2
    have e1 : (1 : Int32).toInt = 1 := rfl
    have e2 : (-1 : Int32).toInt = -1 := rfl
    rw [Int32.toInt_sub]
    rcases hy with rfl | rfl
    · rw [e1] at z ⊢
      rw [Int.bmod_eq_of_le (by omega) (by omega)]; omega
    · rw [e2] at z ⊢
      rw [Int.bmod_eq_of_le (by omega) (by omega)]; omega
  · rw [e]; exact h
/-- what a sweep without a change has seen -/
def hbR (fl ac : Int64) (m : Nat → Int32) (p : Nat) : Prop := p % 9 < 8 → hrE (bfx fl) (bfx ac) p = true → (m p = 1000000 ↔ m (p + 1) = 1000000)
def hbD (fl al : Int64) (m : Nat → Int32) (p : Nat) : Prop := p / 9 < 8 → hdE (bfx fl) (bfx al) p = true → (m p = 1000000 ↔ m (p + 9) = 1000000)
def hbA (fl al ac : Int64) (m : Nat → Int32) (n : Nat) : Prop := ∀ p, p < n → hbR fl ac m p ∧ hbD fl al m p
/-- the least field of the floor -/
def isF0 (fl : Int64) (f0 : Nat) : Prop := f0 < 64 ∧ bfx fl f0 = true ∧ ∀ f, f < f0 → bfx fl f = false
def hVal (fl al ac : Int64) (f0 : Nat) (far : Int32) (w : Nat → Int32) : Prop := ∀ p, p < 81 → (hpt (bfx fl) p = true → (w p).toInt = zG fl al ac p - zG fl al ac (hTL f0)) ∧ (hpt (bfx fl) p = false → w p = far)
theorem hV_end {fl al ac : Int64} {f0 : Nat} {m : Nat → Int32} (hl : LY (bfx fl) (bfx al) (bfx ac)) (hc : aPc fl = 1) (hf : isF0 fl f0) (h : hV fl al ac (hTL f0) m) (hb : hbA fl al ac m 81) : hVal fl al ac f0 1000000 m := by
  have K : hclK (bfx fl) (bfx al) (bfx ac) (fun p => ¬ m p = 1000000) := ⟨fun p hp h1 h2 => not_congr ((hb p hp).1 h1 h2), fun p hp h1 h2 => not_congr ((hb p hp).2 h1 h2)⟩
  refine fun p hp => ⟨fun hpt1 => ?_, fun hpt0 => ?_⟩
  · have k := hK_pt hl K hc hf.2.1 hf.2.2 h.1 hp hpt1
    exact (h.2 p hp k).2
  · by_cases e : m p = 1000000
    · exact e
    · rw [(h.2 p hp e).1] at hpt0
      exact absurd hpt0 (by decide)
/-! ===== the reference's heights ===== -/
section SPP
variable {m : Nat → Int32} {p q : Nat} {y : Int32}
theorem spP_p (hp : p < 81) (hq : q < 81) (hne : ¬ m (nI p).toNatClampNeg = 1000000) (heq : m (nI q).toNatClampNeg = 1000000) : spP m (upd m (nI q).toNatClampNeg (m (nI p).toNatClampNeg + y)) p q y true := by
  rw [nI_clamp (Nat.lt_trans hp (by decide))] at hne ⊢
  rw [nI_clamp (Nat.lt_trans hq (by decide))] at heq ⊢
  exact Or.inl ⟨rfl, Or.inl ⟨hne, heq, rfl⟩⟩
theorem spP_m (hp : p < 81) (hq : q < 81) (hne : ¬ m (nI q).toNatClampNeg = 1000000) (heq : m (nI p).toNatClampNeg = 1000000) : spP m (upd m (nI p).toNatClampNeg (m (nI q).toNatClampNeg - y)) p q y true := by
  rw [nI_clamp (Nat.lt_trans hp (by decide))] at heq ⊢
  rw [nI_clamp (Nat.lt_trans hq (by decide))] at hne ⊢
  exact Or.inl ⟨rfl, Or.inr ⟨hne, heq, rfl⟩⟩
theorem spP_0 (hp : p < 81) (hq : q < 81) (h : m (nI p).toNatClampNeg = 1000000 ↔ m (nI q).toNatClampNeg = 1000000) : spP m m p q y false := by
  rw [nI_clamp (Nat.lt_trans hp (by decide)), nI_clamp (Nat.lt_trans hq (by decide))] at h
  exact Or.inr ⟨rfl, rfl, h⟩
end SPP
def hfI (fl : Int64) (i : Nat) (v : Int32) : Prop := (∀ p, 81 - i ≤ p → p < 81 → hpt (bfx fl) p = false) ∨ ∃ j, v = nI j ∧ 81 - i ≤ j ∧ j < 81 ∧ hpt (bfx fl) j = true ∧ ∀ p, 81 - i ≤ p → p < j → hpt (bfx fl) p = false
section HFI
variable {fl : Int64} {i j : Nat} {v : Int32}
theorem hfI_0 : hfI fl 0 v := Or.inl (fun p h1 h2 => absurd h2 (by omega))
theorem hfI_t (h : i + j + 1 = 81) (q : m_isPoint fl (nI j - nI j / 9 * 9) (nI j / 9) = true) : hfI fl (i + 1) (nI j) := by
  rw [mpt_eq fl (show j < 81 by omega)] at q
  exact Or.inr ⟨j, rfl, by omega, by omega, q, fun p h1 h2 => absurd h2 (by omega)⟩
theorem hfI_f (h : i + j + 1 = 81) (hf : hfI fl i v) (q : m_isPoint fl (nI j - nI j / 9 * 9) (nI j / 9) = false) : hfI fl (i + 1) v := by
  rw [mpt_eq fl (show j < 81 by omega)] at q
  rcases hf with hf | ⟨k, e, k1, k2, k3, k4⟩
  · refine Or.inl (fun p h1 h2 => ?_)
    by_cases z : p = j
    · rw [z]; exact q
    · exact hf p (by omega) h2
  · refine Or.inr ⟨k, e, by omega, k2, k3, fun p h1 h2 => ?_⟩
    by_cases z : p = j
    · rw [z]; exact q
    · exact k4 p (by omega) h2
theorem hTL_lt {f : Nat} (h : f < 64) : hTL f < 71 := by
  unfold hTL
  omega
theorem hTL_pt {on : Nat → Bool} {f : Nat} (h : f < 64) (ho : on f = true) : hpt on (hTL f) = true := by
  have t := tl_m f
  unfold hpt
  rw [t.1, t.2, eB_f h, ho]
  rfl
theorem hTL_min {f0 p : Nat} (h0 : isF0 fl f0) (hp : p < 81) (h : hpt (bfx fl) p = true) : hTL f0 ≤ p := by
  obtain ⟨f, hf, ho, e⟩ := hpt_f hp h
  have hle : f0 ≤ f := by
    rcases Nat.lt_or_ge f f0 with z | z
    · rw [h0.2.2 f z] at ho; exact absurd ho (by decide)
    · exact z
  have k : hTL f0 ≤ hTL f := by unfold hTL; omega
  omega
theorem hfI_e {f0 : Nat} (e : i = 81) (hf : hfI fl i v) (h0 : isF0 fl f0) : v = nI (hTL f0) := by
  have t := hTL_pt (on := bfx fl) h0.1 h0.2.1
  have l := hTL_lt h0.1
  rcases hf with hf | ⟨k, ek, k1, k2, k3, k4⟩
  · rw [hf (hTL f0) (by omega) (by omega)] at t
    exact absurd t (by decide)
  · have m := hTL_min h0 k2 k3
    rcases Nat.lt_or_ge (hTL f0) k with z | z
    · rw [k4 (hTL f0) (by omega) z] at t
      exact absurd t (by decide)
    · rw [ek, show k = hTL f0 by omega]
end HFI
theorem hV_0 {fl al ac : Int64} {f0 i : Nat} {m : Nat → Int32} {v : Int32} (e : i = 81) (ha : aF m i) (hv : v = nI (hTL f0)) (h0 : isF0 fl f0) : hV fl al ac (hTL f0) (upd m v.toNatClampNeg 0) := by
  subst e
  have l := hTL_lt h0.1
  rw [hv, nI_clamp (by omega)]
  refine ⟨by rw [pk_us]; decide, fun p hp hm => ?_⟩
  by_cases q : p = hTL f0
  · subst q
    refine ⟨hTL_pt h0.1 h0.2.1, ?_⟩
    rw [pk_us, Int.sub_self]
    rfl
  · rw [pk_un q] at hm
    exact absurd (ha p (by omega) hp) hm
section HBA
variable {fl al ac : Int64} {m w : Nat → Int32} {p : Nat} {y : Int32} {b : Bool}
theorem hbR_a (hp : p < 81) (h : (8 : Int32) ≤ nI p - nI p / 9 * 9) : hbR fl ac m p := fun z => absurd z (hx_9' ⟨p, hp⟩ h)
theorem hbR_b (hp : p < 81) (h : m_right fl ac (nI p - nI p / 9 * 9) (nI p / 9) = false) : hbR fl ac m p := fun _ z => by
  rw [mri_eq fl ac hp, z] at h
  exact absurd h (by decide)
theorem hbD_a (hp : p < 81) (h : (8 : Int32) ≤ nI p / 9) : hbD fl al m p := fun z => absurd z (hy_9' ⟨p, hp⟩ h)
theorem hbD_b (hp : p < 81) (h : m_down fl al (nI p - nI p / 9 * 9) (nI p / 9) = false) : hbD fl al m p := fun _ z => by
  rw [mdo_eq fl al hp, z] at h
  exact absurd h (by decide)
theorem hbA_0 : hbA fl al ac m 0 := fun p h => absurd h (Nat.not_lt_zero p)
theorem hbA_s (h : hbA fl al ac m p) (r : hbR fl ac m p) (d : hbD fl al m p) : hbA fl al ac m (p + 1) := fun q hq => by
  by_cases e : q = p
  · rw [e]; exact ⟨r, d⟩
  · exact h q (by omega)
theorem spP_f {q : Nat} (h : spP m w p q y b) (hb : b = false) : w = m ∧ (m p = 1000000 ↔ m q = 1000000) := by
  rcases h with ⟨a, -⟩ | ⟨-, a, c⟩
  · rw [hb] at a; exact absurd a (by decide)
  · exact ⟨a, c⟩
theorem hbR_c (h : spP m w p (p + 1) y b) (hb : b = false) (k : hbA fl al ac m p) : hbA fl al ac w p ∧ hbR fl ac w p := by
  obtain ⟨e, z⟩ := spP_f h hb
  rw [e]
  exact ⟨k, fun _ _ => z⟩
theorem hbD_c (h : spP m w p (p + 9) y b) (hb : b = false) (k : hbA fl al ac m p ∧ hbR fl ac m p) : hbA fl al ac w (p + 1) := by
  obtain ⟨e, z⟩ := spP_f h hb
  rw [e]
  exact hbA_s k.1 k.2 (fun _ _ => z)
theorem hbA_e {i : Nat} (e : i = 81) (h : hbA fl al ac m i) : hbA fl al ac m 81 := e ▸ h
end HBA
theorem f0_ex {fl : Int64} (h : aPc fl = 1) : ∃ f0, isF0 fl f0 := by
  apply Classical.byContradiction
  intro hno
  have z : ∀ n, n ≤ 64 → (∀ f, f < n → bfx fl f = false) := by
    intro n
    induction n with
    | zero => exact fun _ f hf => absurd hf (Nat.not_lt_zero f)
    | succ n ih =>
      intro hn f hf
      have ih2 := ih (by omega)
      by_cases e : f = n
      · rw [e]
        cases q : bfx fl n with
        | false => rfl
        | true => exact absurd ⟨n, by omega, q, ih2⟩ hno
      · exact ih2 f (by omega)
  have k : ∀ n, n ≤ 64 → cFr (bfx fl) A8 n = 0 := by
    intro n
    induction n with
    | zero => exact fun _ => rfl
    | succ n ih =>
      intro hn
      rw [cFr_n (fun y => absurd (y.1.symm.trans (z 64 (Nat.le_refl _) n (by omega))) (by decide)), ih (by omega)]
  have e := k 64 (Nat.le_refl _)
  unfold aPc at h
  rw [e] at h
  exact absurd h (by decide)
noncomputable def zF0 (fl : Int64) : Nat := Classical.epsilon (isF0 fl)
theorem zF0_t {fl : Int64} (h : aPc fl = 1) : isF0 fl (zF0 fl) := Classical.epsilon_spec (f0_ex h)
theorem f0_ne {fl : Int64} {f0 : Nat} (h : isF0 fl f0) : ¬ fl = 0 := fun z => by
  have k := h.2.1
  rw [z, bf_0] at k
  exact absurd k (by decide)
theorem wh_o {fl : Int64} {S : List Int32} (h : aWh fl S = true) : cFr (mOut fl) A10 100 = 1 ∧ aPc fl = 1 := by
  by_cases z : whP fl S
  · exact ⟨z.2.2, z.2.1⟩
  · rw [wh_f z] at h
    exact absurd h (by decide)
theorem wh_oJ {J0 fl : Int64} {S : List Int32} (e : J0 = fl) (h : aWh fl S = true) : cFr (mOut J0) A10 100 = 1 ∧ aPc J0 = 1 := by
  rw [e]
  exact wh_o h
/-! how far apart -/
def iab (x : Int32) : Int32 := if 0 ≤ x then x else 0 - x
def apS (o t : Nat → Int32) : Nat → Int32
  | 0 => 0
  | n + 1 => apS o t n + iab (o n - t n)
theorem apS_s {o t : Nat → Int32} {i : Nat} {v : Int32} (hi : i < 81) (h : v = apS o t i) : v + (if 0 ≤ ((o (nI i).toNatClampNeg) - (t (nI i).toNatClampNeg)) then ((o (nI i).toNatClampNeg) - (t (nI i).toNatClampNeg)) else 0 - ((o (nI i).toNatClampNeg) - (t (nI i).toNatClampNeg))) = apS o t (i + 1) := by
  rw [nI_clamp (Nat.lt_trans hi (by decide)), h]
  rfl
theorem apS_congr {o t o' t' : Nat → Int32} : ∀ n, (∀ p, p < n → o p - t p = o' p - t' p) → apS o t n = apS o' t' n
  | 0, _ => rfl
  | n + 1, h => by
    show apS o t n + iab (o n - t n) = apS o' t' n + iab (o' n - t' n)
    rw [apS_congr n (fun p hp => h p (by omega)), h n (by omega)]
noncomputable def zhv (fl al ac : Int64) (p : Nat) : Int32 := if hpt (bfx fl) p = true then Int32.ofInt (zG fl al ac p - zG fl al ac (hTL (zF0 fl))) else 0
theorem hVal_pt {fl al ac : Int64} {far : Int32} {w : Nat → Int32} (h : hVal fl al ac (zF0 fl) far w) {p : Nat} (hp : p < 81) (q : hpt (bfx fl) p = true) : w p = zhv fl al ac p := by
  have e := (h p hp).1 q
  unfold zhv
  rw [if_pos q, ← e, Int32.ofInt_toInt]
theorem hVal_d {fl al ac al' ac' : Int64} {far : Int32} {o t : Nat → Int32} (h : hVal fl al ac (zF0 fl) far o) (h' : hVal fl al' ac' (zF0 fl) far t) {p : Nat} (hp : p < 81) : o p - t p = zhv fl al ac p - zhv fl al' ac' p := by
  cases q : hpt (bfx fl) p with
  | true => rw [hVal_pt h hp q, hVal_pt h' hp q]
  | false =>
    rw [(h p hp).2 q, (h' p hp).2 q]
    unfold zhv
    rw [if_neg (by rw [q]; decide), if_neg (by rw [q]; decide), Int32.sub_self, Int32.sub_self]
noncomputable def apv (fl : Int64) (a b : Nat) : Int32 := apS (zhv fl (zLy fl a).1 (zLy fl a).2) (zhv fl (zLy fl b).1 (zLy fl b).2) 81 / 4
theorem apv_eq {fl : Int64} {a b : Nat} {far : Int32} {o t : Nat → Int32} (h : hVal fl (zLy fl a).1 (zLy fl a).2 (zF0 fl) far o) (h' : hVal fl (zLy fl b).1 (zLy fl b).2 (zF0 fl) far t) : apS o t 81 / 4 = apv fl a b := by
  unfold apv
  rw [apS_congr 81 (fun p hp => hVal_d h h' hp)]
noncomputable def aAg (fl : Int64) (S : List Int32) (a b : Int32) : Int32 := if aWh fl S = true then (if inCnt fl S a = true ∧ inCnt fl S b = true then 0 else (-100001)) else (-100004)
noncomputable def aApa (fl : Int64) (S : List Int32) (a b : Int32) : Int32 := if aAg fl S a b = 0 then apv fl a.toNatClampNeg b.toNatClampNeg else aAg fl S a b
section AAG
variable {fl : Int64} {S : List Int32} {a b : Int32}
theorem ag_0 (h : aWh fl S = false) : (-100004 : Int32) = aAg fl S a b := by rw [aAg, h]; rfl
theorem ag_1 (h : aWh fl S = true) (h2 : inCnt fl S a = false) : (-100001 : Int32) = aAg fl S a b := by rw [aAg, if_pos h, if_neg (fun z => by rw [h2] at z; exact absurd z.1 (by decide))]
theorem ag_2 (h : aWh fl S = true) (h2 : inCnt fl S b = false) : (-100001 : Int32) = aAg fl S a b := by rw [aAg, if_pos h, if_neg (fun z => by rw [h2] at z; exact absurd z.2 (by decide))]
theorem ag_3 (h : aWh fl S = true) (h1 : inCnt fl S a = true) (h2 : inCnt fl S b = true) : (0 : Int32) = aAg fl S a b := by rw [aAg, if_pos h, if_pos ⟨h1, h2⟩]
theorem wi_cnt (hg : S.any m_isG = false) (x : Int32) : m_within x 0 (aCnt fl S - 1) = inCnt fl S x := by
  have b := zWn_b (bfx fl) (n := 64) (m := 0) (by decide) (by decide)
  unfold m_within inCnt
  congr 1
  have e1 : (1 : Int32).toInt = 1 := rfl
  have ec : (aCnt fl S).toInt = (zWn (bfx fl) 64 0 : Int) := by
    rw [ng_cnt hg]
    exact nI_toInt (by omega)
  have k : (aCnt fl S - 1 < x) ↔ ¬ x < aCnt fl S := by
    rw [Int32.lt_iff_toInt_lt, Int32.lt_iff_toInt_lt, Int32.toInt_sub, ec, e1, Int.bmod_eq_of_le (by omega) (by omega)]
    omega
  by_cases q : x < aCnt fl S
  · rw [decide_eq_true q, decide_eq_false (fun z => k.mp z q)]; rfl
  · rw [decide_eq_false q, decide_eq_true (k.mpr q)]; rfl
theorem ic_nat (hg : S.any m_isG = false) {x : Int32} (h : inCnt fl S x = true) : ∃ n, x = nI n ∧ zIn (bfx fl) n := by
  have b := zWn_b (bfx fl) (n := 64) (m := 0) (by decide) (by decide)
  unfold inCnt at h
  rw [Bool.and_eq_true, Bool.not_eq_true', decide_eq_false_iff_not, decide_eq_true_iff] at h
  obtain ⟨j, hj, ej⟩ := nI_ofn h.1
  have r := i32_rng x
  refine ⟨j, hj, ?_⟩
  have k := h.2
  rw [ng_cnt hg, hj, nI_ltI (by omega) (by omega)] at k
  exact k
end AAG
/-- what against() leaves -/
def AgP (fl : Int64) (a b : Int32) (al ac : Int64) (o t : Nat → Int32) : Prop := ∃ na nb, a = nI na ∧ b = nI nb ∧ zIn (bfx fl) na ∧ zIn (bfx fl) nb ∧ (al, ac) = zLy fl na ∧ hVal fl (zLy fl na).1 (zLy fl na).2 (zF0 fl) 1000000 o ∧ hVal fl (zLy fl nb).1 (zLy fl nb).2 (zF0 fl) 1000000 t
theorem hVal_ly {fl al ac : Int64} {n f0 : Nat} {far : Int32} {w : Nat → Int32} (e : (al, ac) = zLy fl n) (h : hVal fl al ac f0 far w) : hVal fl (zLy fl n).1 (zLy fl n).2 f0 far w := by
  rw [← e]
  exact h
theorem zIn_lt {fl : Int64} {n : Nat} (h : zIn (bfx fl) n) : n < 2 ^ 31 := by
  have b := zWn_b (bfx fl) (n := 64) (m := 0) (by decide) (by decide)
  unfold zIn at h
  omega
theorem ap_fin {J0 fl : Int64} {S : List Int32} {a b : Int32} {al ac : Int64} {o t : Nat → Int32} (eJ : J0 = fl) (h0 : aAg fl S a b = 0) (h : AgP J0 a b al ac o t) : apS o t 81 / 4 = aApa fl S a b := by
  subst eJ
  obtain ⟨na, nb, rfl, rfl, za, zb, -, ho, ht⟩ := h
  rw [aApa, if_pos h0, nI_clamp (zIn_lt za), nI_clamp (zIn_lt zb)]
  exact apv_eq ho ht
theorem ap_no {fl : Int64} {S : List Int32} {a b : Int32} (h0 : ¬ aAg fl S a b = 0) : aAg fl S a b = aApa fl S a b := by rw [aApa, if_neg h0]
theorem hV_bd {fl al ac : Int64} {f0 : Nat} {m : Nat → Int32} (hl : LY (bfx fl) (bfx al) (bfx ac)) (hc : aPc fl = 1) (hf : isF0 fl f0) (h : hV fl al ac (hTL f0) m) (hb : hbA fl al ac m 81) (hB0 : hB m) : ∀ r, r < 81 → hpt (bfx fl) r = true → -100 ≤ (m r).toInt ∧ (m r).toInt ≤ 100 := by
  have K : hclK (bfx fl) (bfx al) (bfx ac) (fun p => ¬ m p = 1000000) := ⟨fun p hp h1 h2 => not_congr ((hb p hp).1 h1 h2), fun p hp h1 h2 => not_congr ((hb p hp).2 h1 h2)⟩
  exact fun r hr hp => hB_bd hr hB0 (hK_pt hl K hc hf.2.1 hf.2.2 h.1 hr hp)
