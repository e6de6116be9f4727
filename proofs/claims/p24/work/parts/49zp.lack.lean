/-! ===== how many darks no covering reaches ===== -/
noncomputable def cnP (P : Nat → Prop) : Nat → Nat
  | 0 => 0
  | n + 1 => cnP P n + @ite Nat (P n) (Classical.propDecidable _) 1 0
section CNP
variable {P Q : Nat → Prop} {n : Nat}
theorem cnP_y (h : P n) : cnP P (n + 1) = cnP P n + 1 := by
  show cnP P n + @ite Nat (P n) (Classical.propDecidable _) 1 0 = _
  rw [if_pos h]
theorem cnP_n (h : ¬ P n) : cnP P (n + 1) = cnP P n := by
  show cnP P n + @ite Nat (P n) (Classical.propDecidable _) 1 0 = _
  rw [if_neg h]
  rfl
theorem cnP_le : ∀ n, (∀ x, x < n → P x → Q x) → cnP P n ≤ cnP Q n
  | 0, _ => Nat.le_refl _
  | n + 1, h => by
    have ih := cnP_le n (fun x hx => h x (by omega))
    by_cases p : P n
    · rw [cnP_y p, cnP_y (h n (by omega) p)]
      omega
    · rw [cnP_n p]
      by_cases q : Q n
      · rw [cnP_y q]; omega
      · rw [cnP_n q]; exact ih
theorem cnP_eq {n : Nat} (h : ∀ x, x < n → (P x ↔ Q x)) : cnP P n = cnP Q n := Nat.le_antisymm (cnP_le n (fun x hx => (h x hx).mp)) (cnP_le n (fun x hx => (h x hx).mpr))
theorem cnP_rm {b : Nat} (hb : Q b) : ∀ n, b < n → cnP (fun x => Q x ∧ x ≠ b) n + 1 = cnP Q n
  | 0, h => absurd h (Nat.not_lt_zero b)
  | n + 1, h => by
    by_cases e : n = b
    · subst e
      rw [cnP_n (P := fun x => Q x ∧ x ≠ n) (fun z => z.2 rfl), cnP_y hb, cnP_eq (P := fun x => Q x ∧ x ≠ n) (Q := Q) (fun x hx => ⟨fun z => z.1, fun z => ⟨z, by omega⟩⟩)]
    · have ih := cnP_rm hb n (by omega)
      by_cases q : Q n
      · rw [cnP_y (P := fun x => Q x ∧ x ≠ b) ⟨q, e⟩, cnP_y q]; omega
      · rw [cnP_n (P := fun x => Q x ∧ x ≠ b) (fun z => q z.1), cnP_n q]; exact ih
theorem cnP_inj {φ : Nat → Nat} {N : Nat} : ∀ n (Q : Nat → Prop), (∀ x, x < n → P x → φ x < N ∧ Q (φ x)) → (∀ x y, x < n → y < n → P x → P y → φ x = φ y → x = y) → cnP P n ≤ cnP Q N
  | 0, _, _, _ => Nat.zero_le _
  | n + 1, Q, h, hi => by
    by_cases p : P n
    · obtain ⟨l, q⟩ := h n (by omega) p
      have ih := cnP_inj n (fun x => Q x ∧ x ≠ φ n) (fun x hx px => ⟨(h x (by omega) px).1, (h x (by omega) px).2, fun z => by
        have := hi x n (by omega) (by omega) px p z
        omega⟩) (fun x y hx hy => hi x y (by omega) (by omega))
      rw [cnP_y p, ← cnP_rm q N l]
      omega
    · rw [cnP_n p]
      exact cnP_inj n Q (fun x hx => h x (by omega)) (fun x y hx hy => hi x y (by omega) (by omega))
theorem cnP_sur {φ : Nat → Nat} {N n : Nat} (h : ∀ x, x < n → P x → φ x < N ∧ Q (φ x)) (hi : ∀ x y, x < n → y < n → P x → P y → φ x = φ y → x = y) (e : cnP Q N ≤ cnP P n) {b : Nat} (hb : b < N) (hQ : Q b) : ∃ x, x < n ∧ P x ∧ φ x = b := by
  apply Classical.byContradiction
  intro hno
  have k := cnP_inj (P := P) (φ := φ) (N := N) n (fun x => Q x ∧ x ≠ b) (fun x hx px => ⟨(h x hx px).1, (h x hx px).2, fun z => hno ⟨x, hx, px, z⟩⟩) hi
  have r := cnP_rm hQ N hb
  omega
theorem cnP_sub {n : Nat} (h : ∀ x, x < n → P x → Q x) (e : cnP Q n ≤ cnP P n) : ∀ x, x < n → Q x → P x := by
  intro x hx q
  apply Classical.byContradiction
  intro hno
  have r := cnP_rm q n hx
  have l := cnP_le (P := P) (Q := fun y => Q y ∧ y ≠ x) n (fun y hy py => ⟨h y hy py, fun z => hno (z ▸ py)⟩)
  omega
theorem cnP_sp : ∀ n, cnP (fun x => P x ∧ Q x) n + cnP (fun x => P x ∧ ¬ Q x) n = cnP P n
  | 0 => rfl
  | n + 1 => by
    have ih := cnP_sp n
    by_cases p : P n
    · by_cases q : Q n
      · rw [cnP_y (P := fun x => P x ∧ Q x) ⟨p, q⟩, cnP_n (P := fun x => P x ∧ ¬ Q x) (fun z => z.2 q), cnP_y p]; omega
      · rw [cnP_n (P := fun x => P x ∧ Q x) (fun z => q z.2), cnP_y (P := fun x => P x ∧ ¬ Q x) ⟨p, q⟩, cnP_y p]; omega
    · rw [cnP_n (P := fun x => P x ∧ Q x) (fun z => p z.1), cnP_n (P := fun x => P x ∧ ¬ Q x) (fun z => p z.1), cnP_n p]; omega
end CNP
/-- a covering; what it leaves; what shows that none leaves less -/
def VM (fl : Int64) (mate : Nat → Int32) : Prop := ∀ d, d < 64 → dk fl d → mate d = -1 ∨ ∃ g, g < 64 ∧ mate d = nI g ∧ A8 d g = true ∧ bfx fl g = true ∧ mate g = nI d
def UD (fl : Int64) (mate : Nat → Int32) (d : Nat) : Prop := dk fl d ∧ mate d = -1
def CT_ (fl : Int64) (mate : Nat → Int32) (T : Nat → Prop) : Prop := (∀ d, T d → d < 64 ∧ dk fl d) ∧ (∀ d, d < 64 → dk fl d → mate d = -1 → T d) ∧ ∀ d g, T d → g < 64 → A8 d g = true → bfx fl g = true → ∃ x, x < 64 ∧ mate g = nI x ∧ T x ∧ mate x = nI g
def NT (fl : Int64) (T : Nat → Prop) (g : Nat) : Prop := ∃ d, T d ∧ A8 d g = true ∧ bfx fl g = true
section MAX
variable {fl : Int64} {m1 m2 : Nat → Int32} {T : Nat → Prop}
theorem nI_ne1 {x : Nat} (h : x < 64) : ¬ nI x = -1 := nI_m1 ⟨x, h⟩
theorem cl_64 {x : Nat} (h : x < 64) : (nI x).toNatClampNeg = x := nI_clamp (by omega)
theorem mx_1 (h2 : CT_ fl m2 T) : cnP (NT fl T) 64 ≤ cnP (fun x => T x ∧ ¬ UD fl m2 x) 64 := by
  refine cnP_inj (φ := fun g => (m2 g).toNatClampNeg) 64 _ (fun g hg ⟨d, k1, k2, k3⟩ => ?_) (fun g g' hg hg' ⟨d, k1, k2, k3⟩ ⟨d', k1', k2', k3'⟩ e => ?_)
  · obtain ⟨x, x1, x2, x3, x4⟩ := h2.2.2 d g k1 hg k2 k3
    rw [x2, cl_64 x1]
    exact ⟨x1, x3, fun z => nI_ne1 hg (x4.symm.trans z.2)⟩
  · obtain ⟨x, x1, x2, x3, x4⟩ := h2.2.2 d g k1 hg k2 k3
    obtain ⟨y, y1, y2, y3, y4⟩ := h2.2.2 d' g' k1' hg' k2' k3'
    rw [x2, y2, cl_64 x1, cl_64 y1] at e
    subst e
    exact nI_i64 hg hg' (x4.symm.trans y4)
theorem mx_2a (h1 : VM fl m1) (hT : ∀ d, T d → d < 64 ∧ dk fl d) {d : Nat} (k : T d ∧ ¬ UD fl m1 d) : ∃ g, g < 64 ∧ m1 d = nI g ∧ A8 d g = true ∧ bfx fl g = true ∧ m1 g = nI d := by
  obtain ⟨l, dk1⟩ := hT d k.1
  rcases h1 d l dk1 with z | z
  · exact absurd ⟨dk1, z⟩ k.2
  · exact z
theorem mx_2i (h1 : VM fl m1) (hT : ∀ d, T d → d < 64 ∧ dk fl d) : (∀ x, x < 64 → (T x ∧ ¬ UD fl m1 x) → (m1 x).toNatClampNeg < 64 ∧ NT fl T (m1 x).toNatClampNeg) ∧ ∀ x y, x < 64 → y < 64 → (T x ∧ ¬ UD fl m1 x) → (T y ∧ ¬ UD fl m1 y) → (m1 x).toNatClampNeg = (m1 y).toNatClampNeg → x = y := by
  refine ⟨fun d hd k => ?_, fun d d' hd hd' k k' e => ?_⟩
  · obtain ⟨g, g1, g2, g3, g4, g5⟩ := mx_2a h1 hT k
    rw [g2, cl_64 g1]
    exact ⟨g1, d, k.1, g3, g4⟩
  · obtain ⟨g, g1, g2, g3, g4, g5⟩ := mx_2a h1 hT k
    obtain ⟨y, y1, y2, y3, y4, y5⟩ := mx_2a h1 hT k'
    rw [g2, y2, cl_64 g1, cl_64 y1] at e
    subst e
    exact nI_i64 hd hd' (g5.symm.trans y5)
theorem mx_2 (h1 : VM fl m1) (hT : ∀ d, T d → d < 64 ∧ dk fl d) : cnP (fun x => T x ∧ ¬ UD fl m1 x) 64 ≤ cnP (NT fl T) 64 := cnP_inj 64 _ (mx_2i h1 hT).1 (mx_2i h1 hT).2
theorem mx_U (h2 : CT_ fl m2 T) : cnP (fun x => T x ∧ UD fl m2 x) 64 = cnP (UD fl m2) 64 := cnP_eq (fun x hx => ⟨fun z => z.2, fun z => ⟨h2.2.1 x hx z.1 z.2, z⟩⟩)
theorem mx_le (h1 : VM fl m1) (h2 : CT_ fl m2 T) : cnP (UD fl m2) 64 ≤ cnP (fun x => T x ∧ UD fl m1 x) 64 := by
  have a := mx_1 h2
  have b := mx_2 h1 h2.1
  have c := cnP_sp (P := T) (Q := UD fl m1) 64
  have d := cnP_sp (P := T) (Q := UD fl m2) 64
  have e := mx_U h2
  omega
theorem mx_le2 : cnP (fun x => T x ∧ UD fl m1 x) 64 ≤ cnP (UD fl m1) 64 := cnP_le 64 (fun _ _ z => z.2)
end MAX
theorem mx_same {fl : Int64} {m1 m2 : Nat → Int32} {T1 T2 : Nat → Prop} (h1 : VM fl m1) (h2 : VM fl m2) (c1 : CT_ fl m1 T1) (c2 : CT_ fl m2 T2) : cnP (UD fl m1) 64 = cnP (UD fl m2) 64 := Nat.le_antisymm (Nat.le_trans (mx_le h2 c1) mx_le2) (Nat.le_trans (mx_le h1 c2) mx_le2)
/-- the least such set -/
def RLs (fl : Int64) (mate : Nat → Int32) (R : Nat → Prop) : Prop := CT_ fl mate R ∧ ∀ C : Nat → Prop, (∀ d, d < 64 → dk fl d → mate d = -1 → C d) → (∀ d g x, C d → d < 64 → dk fl d → g < 64 → A8 d g = true → bfx fl g = true → x < 64 → mate g = nI x → C x) → ∀ d, R d → C d
theorem mx_in {fl : Int64} {m1 m2 : Nat → Int32} {R1 R2 : Nat → Prop} (h1 : VM fl m1) (h2 : VM fl m2) (c1 : RLs fl m1 R1) (c2 : CT_ fl m2 R2) : ∀ d, R1 d → R2 d := by
  have e := mx_same h1 h2 c1.1 c2
  have a := mx_1 c2
  have b := mx_2 h1 c2.1
  have c := cnP_sp (P := R2) (Q := UD fl m1) 64
  have d := cnP_sp (P := R2) (Q := UD fl m2) 64
  have u := mx_U c2
  have l := mx_le2 (T := R2) (fl := fl) (m1 := m1)
  have s1 := cnP_sub (P := fun x => R2 x ∧ UD fl m1 x) (Q := UD fl m1) (n := 64) (fun _ _ z => z.2) (by omega)
  have i := mx_2i h1 c2.1
  refine c1.2 R2 (fun d hd k z => (s1 d hd ⟨k, z⟩).1) (fun d g x k hd hk hg hA ho hx hm => ?_)
  obtain ⟨y, y1, y2, y3⟩ := cnP_sur (φ := fun d => (m1 d).toNatClampNeg) i.1 i.2 (by omega) hg ⟨d, k, hA, ho⟩
  obtain ⟨g', g1, g2, g3, g4, g5⟩ := mx_2a h1 c2.1 y2
  rw [g2, cl_64 g1] at y3
  subst y3
  rw [nI_i64 hx y1 (hm.symm.trans g5)]
  exact y2.1
theorem mx_R {fl : Int64} {m1 m2 : Nat → Int32} {R1 R2 : Nat → Prop} (h1 : VM fl m1) (h2 : VM fl m2) (c1 : RLs fl m1 R1) (c2 : RLs fl m2 R2) (d : Nat) : R1 d ↔ R2 d := ⟨mx_in h1 h2 c1 c2.1 d, mx_in h2 h1 c2 c1.1 d⟩
/-- the answers -/
def lkP (fl : Int64) (k : Nat) : Prop := ∃ mate T, VM fl mate ∧ CT_ fl mate T ∧ cnP (UD fl mate) 64 = k
noncomputable def lkN (fl : Int64) : Nat := Classical.epsilon (lkP fl)
theorem lk_eq {fl : Int64} {k : Nat} (h : lkP fl k) : k = lkN fl := by
  obtain ⟨m1, T1, v1, c1, e1⟩ := h
  obtain ⟨m2, T2, v2, c2, e2⟩ := Classical.epsilon_spec (p := lkP fl) ⟨k, m1, T1, v1, c1, e1⟩
  rw [← e1]
  exact (mx_same v1 v2 c1 c2).trans e2
def lrP (fl : Int64) (d : Nat) : Prop := ∃ mate R, VM fl mate ∧ RLs fl mate R ∧ R d
theorem lr_iff {fl : Int64} {mate : Nat → Int32} {R : Nat → Prop} (h : VM fl mate) (c : RLs fl mate R) (d : Nat) : R d ↔ lrP fl d := by
  refine ⟨fun z => ⟨mate, R, h, c, z⟩, ?_⟩
  rintro ⟨m2, R2, h2, c2, z⟩
  exact (mx_R h2 h c2 c d).mp z
/-! ===== the reference's covering ===== -/
def PRp (fl : Int64) (mate : Nat → Int32) : Prop := ∀ h x, h < 64 → x < 64 → mate h = nI x → (dk fl h ∧ ¬ dk fl x ∧ A8 h x = true ∧ bfx fl x = true) ∨ (dk fl x ∧ ¬ dk fl h ∧ A8 x h = true ∧ bfx fl h = true)
def TCx (fl : Int64) (T : Nat → Prop) (mate : Nat → Int32) : Prop := (∀ d, T d → d < 64 ∧ dk fl d) ∧ ∀ d g, T d → g < 64 → A8 d g = true → bfx fl g = true → ∃ x, x < 64 ∧ mate g = nI x ∧ T x ∧ mate x = nI g
def AJP (fl : Int64) (P : Nat → Prop) (frm : Nat → Int32) : Prop := ∀ h d, P h → d < 64 → frm h = nI d → A8 d h = true ∧ bfx fl h = true
theorem dk_nb_t : ∀ a b : Fin 64, A8 a.val b.val = true → m_isDark (nI a.val - nI a.val / 8 * 8) (nI a.val / 8) = true → m_isDark (nI b.val - nI b.val / 8 * 8) (nI b.val / 8) = false := by decide +kernel
theorem dk_nb {fl : Int64} {a b : Nat} (h : A8 a b = true) (ha : dk fl a) : ¬ dk fl b := by
  obtain ⟨la, lb⟩ := A8_lt h
  exact dk_not (dk_nb_t ⟨a, la⟩ ⟨b, lb⟩ h) ha
theorem vm_of {fl : Int64} {mate : Nat → Int32} (h1 : RG mate) (h2 : SYx mate 64) (h3 : PRp fl mate) : VM fl mate := by
  intro d hd hk
  rcases h1 d hd with z | ⟨x, hx, z⟩
  · exact Or.inl z
  · refine Or.inr ⟨x, hx, z, ?_, ?_, h2.1 d x hd hx (Nat.ne_of_lt hd) z⟩
    · rcases h3 d x hd hx z with y | y
      · exact y.2.2.1
      · exact absurd hk y.2.1
    · rcases h3 d x hd hx z with y | y
      · exact y.2.2.2
      · exact absurd hk y.2.1
/-- while a way is turned over -/
def WL2 (fl : Int64) (f tm : Nat) (v : Int32) (mate frm m0 : Nat → Int32) (Tc : Nat → Prop) : Prop := RG mate ∧ UN fl (f + 1) mate ∧ PRp fl mate ∧ TCx fl Tc mate ∧ (∀ k, k < 64 → dk fl k → k ≠ f → (mate k = -1 ↔ m0 k = -1)) ∧ ((v = -1 ∧ SYx mate 64 ∧ ¬ mate f = -1) ∨ ∃ (g : Nat) (T : Nat → Nat) (P : Nat → Prop), g < 64 ∧ v = nI g ∧ P g ∧ T g < tm ∧ SYx mate g ∧ mate f = -1 ∧ ¬ NT fl Tc g ∧ CH fl (nI f) T P frm mate (T g) ∧ AJP fl P frm)
def WS2 (fl : Int64) (f g d : Nat) (T : Nat → Nat) (P : Nat → Prop) (mate frm m0 : Nat → Int32) (Tc : Nat → Prop) : Prop := WS fl f g d T P mate frm ∧ PRp fl mate ∧ TCx fl Tc mate ∧ (∀ k, k < 64 → dk fl k → k ≠ f → (mate k = -1 ↔ m0 k = -1)) ∧ mate f = -1 ∧ ¬ NT fl Tc g ∧ AJP fl P frm ∧ A8 d g = true ∧ bfx fl g = true
theorem wl2_pos {fl : Int64} {f tm : Nat} {v : Int32} {mate frm m0 : Nat → Int32} {Tc : Nat → Prop} (h : WL2 fl f tm v mate frm m0 Tc) (q : ¬ v < 0) : ∃ (g d : Nat) (T : Nat → Nat) (P : Nat → Prop), g < 64 ∧ d < 64 ∧ v = nI g ∧ T g < tm ∧ frm g = nI d ∧ WS2 fl f g d T P mate frm m0 Tc := by
  obtain ⟨h1, h2, p3, p4, p5, h3 | ⟨g, T, P, hg, hv, hP, ht, hS, hmf, hN, hC, hJ⟩⟩ := h
  · rw [h3.1] at q
    exact absurd (by decide) q
  · obtain ⟨c1, c2, d, c3, c4, c5, c6, c7⟩ := hC g hP (Nat.le_refl _)
    have a := hJ g d hP c3 c5
    exact ⟨g, d, T, P, hg, c3, hv, ht, c5, ⟨h1, h2, hP, hS, hC, c2, c4, c6, c7⟩, p3, p4, p5, hmf, hN, hJ, a.1, a.2⟩
theorem wl2_end {fl : Int64} {f tm : Nat} {v : Int32} {mate frm m0 : Nat → Int32} {Tc : Nat → Prop} (h : WL2 fl f tm v mate frm m0 Tc) (q : v < 0) : RG mate ∧ SYx mate 64 ∧ UN fl (f + 1) mate ∧ PRp fl mate ∧ TCx fl Tc mate ∧ (∀ k, k < 64 → dk fl k → k ≠ f → (mate k = -1 ↔ m0 k = -1)) ∧ ¬ mate f = -1 := by
  obtain ⟨h1, h2, p3, p4, p5, h3 | ⟨g, T, P, hg, hv, -⟩⟩ := h
  · exact ⟨h1, h3.2.1, h2, p3, p4, p5, h3.2.2⟩
  · rw [hv] at q
    exact absurd q (nI_nn ⟨g, hg⟩)
theorem ws2_step {fl : Int64} {f g d : Nat} {T : Nat → Nat} {P : Nat → Prop} {mate frm m0 : Nat → Int32} {Tc : Nat → Prop} (hf : f < 64) (hdf : dk fl f) (hg : g < 64) (hd : d < 64) (h : WS2 fl f g d T P mate frm m0 Tc) : WL2 fl f (T g) (mate d) (upd (upd mate d (nI g)) g (nI d)) frm m0 Tc := by
  obtain ⟨hw, p3, p4, p5, hmf, hN, hJ, hA, hO⟩ := h
  have hstep := ws_step hf hg hd hw
  obtain ⟨h1, h2, hP, hS, hC, hng, hkd, htd, alt⟩ := hw
  have hdg : d ≠ g := fun z => Nat.lt_irrefl _ (z ▸ htd)
  have hdT : ¬ Tc d := fun z => hN ⟨d, z, hA, hO⟩
  have hgf : f ≠ g := fun z => hng (z ▸ hdf)
  obtain ⟨e1, e2, e3⟩ := ws_eq (mate := mate) hdg
  obtain ⟨s1, s2, -⟩ := hstep
  have sy := fun e => ws_sy (fl := fl) (f := f) (e := e) (T := T) (P := P) (frm := frm) hg hd hS hdg e1 e2 e3
  generalize upd (upd mate d (nI g)) g (nI d) = m2 at e1 e2 e3 s1 s2 sy ⊢
  refine ⟨s1, s2, ?_, ⟨p4.1, ?_⟩, ?_, ?_⟩
  · intro k x hk hx z
    by_cases q : k = g
    · subst q
      rw [e1] at z
      rw [← nI_i64 hd hx z]
      exact Or.inr ⟨hkd, hng, hA, hO⟩
    · by_cases q2 : k = d
      · subst q2
        rw [e2] at z
        rw [← nI_i64 hg hx z]
        exact Or.inl ⟨hkd, hng, hA, hO⟩
      · rw [e3 k q2 q] at z
        exact p3 k x hk hx z
  · intro t k ht hk htk hok
    obtain ⟨x, x1, x2, x3, x4⟩ := p4.2 t k ht hk htk hok
    have k1 : k ≠ g := fun z => hN ⟨t, ht, z ▸ htk, z ▸ hok⟩
    have k2 : k ≠ d := fun z => dk_nb htk (p4.1 t ht).2 (z ▸ hkd)
    have y1 : x ≠ g := fun z => hng (z ▸ (p4.1 x x3).2)
    have y2 : x ≠ d := fun z => hdT (z ▸ x3)
    exact ⟨x, x1, by rw [e3 k k2 k1]; exact x2, x3, by rw [e3 x y2 y1]; exact x4⟩
  · intro k hk hkk hkf
    have q : k ≠ g := fun z => hng (z ▸ hkk)
    by_cases q2 : k = d
    · subst q2
      rw [e2]
      refine iff_of_false (nI_ne1 hg) (fun z => ?_)
      have md := (p5 k hk hkk hkf).mpr z
      rcases alt with ⟨-, m3 | m3⟩ | ⟨h2', m3, p2, l2⟩
      · exact hkf (nI_i64 hk hf m3)
      · exact absurd m3 (nI_nn ⟨f, hf⟩)
      · rw [md] at m3
        exact nI_ne1 (hC h2' p2 (Nat.le_of_lt (Nat.lt_trans l2 htd))).1 m3.symm
    · rw [e3 k q2 q]
      exact p5 k hk hkk hkf
  · rcases alt with ⟨m1, m3⟩ | ⟨h2', m1, p2, l2⟩
    · have hdf2 : d = f := by
        rcases m3 with m3 | m3
        · exact nI_i64 hd hf m3
        · exact absurd m3 (nI_nn ⟨f, hf⟩)
      refine Or.inl ⟨m1, ⟨sy 64 (fun x hx z => ?_), fun k hk z => absurd z (by decide)⟩, ?_⟩
      · rw [m1] at z
        exact absurd z.symm (nI_ne1 hx)
      · rw [← hdf2, e2]
        exact nI_ne1 hg
    · have hh2 := (hC h2' p2 (Nat.le_of_lt (Nat.lt_trans l2 htd))).1
      have hdf2 : f ≠ d := fun z => by
        rw [z, m1] at hmf
        exact nI_ne1 hh2 hmf
      refine Or.inr ⟨h2', T, P, hh2, m1, p2, Nat.lt_trans l2 htd, ⟨sy h2' (fun x hx z => ?_), fun k hk _ z => ?_⟩, by rw [e3 f hdf2 hgf]; exact hmf, ?_, fun k hk hkt => ?_, hJ⟩
      · rw [m1] at z
        exact (nI_i64 hh2 hx z).symm
      · by_cases q : k = g
        · subst q
          rw [e1] at z
          rw [nI_i64 hd hh2 z] at l2
          exact Nat.lt_irrefl _ l2
        · by_cases q2 : k = d
          · subst q2
            rw [e2] at z
            rw [nI_i64 hg hh2 z] at htd
            exact Nat.lt_irrefl _ (Nat.lt_trans l2 htd)
          · rw [e3 k q2 q] at z
            have y1 := hS.1 k h2' hk hh2 q z
            have y2 := hS.1 d h2' hd hh2 hdg m1
            rw [y1] at y2
            exact q2 (nI_i64 hk hd y2)
      · rintro ⟨t, ht, hta, hto⟩
        obtain ⟨x, x1, x2, x3, x4⟩ := p4.2 t h2' ht hh2 hta hto
        have y2 := hS.1 d h2' hd hh2 hdg m1
        rw [x2] at y2
        exact hdT (nI_i64 x1 hd y2 ▸ x3)
      · obtain ⟨c1, c2, x, c3, c4, c5, c6, c7⟩ := hC k hk (Nat.le_trans hkt (Nat.le_of_lt (Nat.lt_trans l2 htd)))
        have l3 : T x < T d := Nat.lt_trans (Nat.lt_of_lt_of_le c6 hkt) l2
        have q2 : x ≠ d := fun z => Nat.lt_irrefl _ (z ▸ l3)
        have q : x ≠ g := fun z => Nat.lt_irrefl _ (Nat.lt_trans (z ▸ l3) htd)
        refine ⟨c1, c2, x, c3, c4, c5, c6, ?_⟩
        rw [e3 x q2 q]
        exact c7
theorem ws2_step2 {fl : Int64} {f g d : Nat} {T : Nat → Nat} {P : Nat → Prop} {mate frm m0 : Nat → Int32} {Tc : Nat → Prop} (hf : f < 64) (hdf : dk fl f) (hg : g < 64) (hd : d < 64) (h : WS2 fl f g d T P mate frm m0 Tc) : WL2 fl f (T g) (mate (nI d).toNatClampNeg) (upd (upd mate (nI d).toNatClampNeg (nI g)) (nI g).toNatClampNeg (nI d)) frm m0 Tc := by
  rw [nI_clamp (Nat.lt_trans hd (by decide)), nI_clamp (Nat.lt_trans hg (by decide))]
  exact ws2_step hf hdf hg hd h
/-- what a spreading has seen -/
def sSM (fl : Int64) (seen mate : Nat → Int32) : Prop := ∀ h, h < 64 → ¬ dk fl h → ¬ seen h = 0 → ∃ x, x < 64 ∧ mate h = nI x ∧ ¬ seen x = 0
def sAJ (fl : Int64) (seen frm : Nat → Int32) : Prop := ∀ h, h < 64 → ¬ dk fl h → ¬ seen h = 0 → bfx fl h = true ∧ ∃ d, d < 64 ∧ frm h = nI d ∧ A8 d h = true
def sSt (fl : Int64) (mate : Nat → Int32) (x0 : Int32) (d : Nat) : Prop := d < 64 ∧ (nI d = x0 ∨ (x0 < 0 ∧ dk fl d ∧ mate d = -1))
def sLS (fl : Int64) (seen mate : Nat → Int32) (x0 : Int32) : Prop := (∀ d, sSt fl mate x0 d → ¬ seen d = 0) ∧ ∀ C : Nat → Prop, (∀ d, sSt fl mate x0 d → C d) → (∀ d g x, C d → d < 64 → dk fl d → g < 64 → A8 d g = true → bfx fl g = true → x < 64 → mate g = nI x → C x) → ∀ d, d < 64 → dk fl d → ¬ seen d = 0 → C d
def sIV (fl : Int64) (seen frm mate : Nat → Int32) (x0 : Int32) : Prop := sSM fl seen mate ∧ sAJ fl seen frm ∧ sLS fl seen mate x0
/-- a dark field's ways up to wy lead to what is seen -/
def sWy (fl : Int64) (seen : Nat → Int32) (f wy : Nat) : Prop := ¬ seen f = 0 → dk fl f → ∀ w, w < wy → ∀ g, g < 64 → m_bes (nI f) (nI w) = nI g → bfx fl g = true → ¬ seen g = 0
def sCl (fl : Int64) (seen : Nat → Int32) (n : Nat) : Prop := ∀ f, f < n → sWy fl seen f 4
theorem bes_A8_t : ∀ a b : Fin 64, A8 a.val b.val = true → (m_bes (nI a.val) (nI 0) = nI b.val ∨ m_bes (nI a.val) (nI 1) = nI b.val ∨ m_bes (nI a.val) (nI 2) = nI b.val ∨ m_bes (nI a.val) (nI 3) = nI b.val) := by decide +kernel
theorem A8_bes_t : ∀ a b : Fin 64, ∀ w : Fin 4, m_bes (nI a.val) (nI w.val) = nI b.val → A8 a.val b.val = true := by decide +kernel
theorem bes_A8 {a b : Nat} (h : A8 a b = true) : ∃ w, w < 4 ∧ m_bes (nI a) (nI w) = nI b := by
  obtain ⟨la, lb⟩ := A8_lt h
  rcases bes_A8_t ⟨a, la⟩ ⟨b, lb⟩ h with z | z | z | z
  · exact ⟨0, by decide, z⟩
  · exact ⟨1, by decide, z⟩
  · exact ⟨2, by decide, z⟩
  · exact ⟨3, by decide, z⟩
def sEnd (fl : Int64) (seen mate : Nat → Int32) (x0 : Int32) : Prop := (∀ d g, d < 64 → dk fl d → ¬ seen d = 0 → g < 64 → A8 d g = true → bfx fl g = true → ∃ x, x < 64 ∧ mate g = nI x ∧ (dk fl x ∧ ¬ seen x = 0) ∧ mate x = nI g) ∧ sLS fl seen mate x0
theorem sEnd_of {fl : Int64} {seen frm mate : Nat → Int32} {x0 : Int32} (h1 : SYx mate 64) (h2 : PRp fl mate) (h : sIV fl seen frm mate x0) (hc : sCl fl seen 64) : sEnd fl seen mate x0 := by
  refine ⟨fun d g hd hk hs hg hA ho => ?_, h.2.2⟩
  obtain ⟨w, hw, ew⟩ := bes_A8 hA
  have sg := hc d hd hs hk w hw g hg ew ho
  have ng := dk_nb hA hk
  obtain ⟨x, hx, mx, sx⟩ := h.1 g hg ng sg
  refine ⟨x, hx, mx, ⟨?_, sx⟩, h1.1 g x hg hx (Nat.ne_of_lt hg) mx⟩
  rcases h2 g x hg hx mx with z | z
  · exact absurd z.1 ng
  · exact z.1
def lsC (fl : Int64) (mate : Nat → Int32) (x0 : Int32) (f : Nat) : Prop := ∀ C : Nat → Prop, (∀ d, sSt fl mate x0 d → C d) → (∀ d g x, C d → d < 64 → dk fl d → g < 64 → A8 d g = true → bfx fl g = true → x < 64 → mate g = nI x → C x) → C f
def sfOk2 (fl : Int64) (x0 : Int32) (frm mate : Nat → Int32) (r : Int32) : Prop := r = -1 ∨ ∃ g, g < 64 ∧ r = nI g ∧ mate g = -1 ∧ (∃ (T : Nat → Nat) (P : Nat → Prop), P g ∧ CH fl x0 T P frm mate (T g) ∧ AJP fl P frm) ∧ ∃ f, f < 64 ∧ dk fl f ∧ A8 f g = true ∧ bfx fl g = true ∧ lsC fl mate x0 f
section SIV
variable {fl : Int64} {seen frm mate : Nat → Int32} {x0 : Int32} {f g x : Nat}
theorem su_1 {k : Nat} (h : ¬ seen k = 0) : ¬ upd seen g (vp_nar .boolean 1) k = 0 := by
  by_cases e : k = g
  · rw [e, pk_us]; exact nar1
  · rw [pk_un e]; exact h
theorem saj_g (h : sAJ fl seen frm) (hf : f < 64) (hA : A8 f g = true) (ho : bfx fl g = true) : sAJ fl (upd seen g (vp_nar .boolean 1)) (upd frm g (nI f)) := by
  intro k hk hnk hs
  by_cases e : k = g
  · subst e
    exact ⟨ho, f, hf, pk_us, hA⟩
  · rw [pk_un e] at hs ⊢
    exact h k hk hnk hs
theorem sIV_s (h : sIV fl seen frm mate x0) (hf : f < 64) (hsf : ¬ seen f = 0) (hdf : dk fl f) (hg : g < 64) (hA : A8 f g = true) (ho : bfx fl g = true) (hx : x < 64) (hm : mate g = nI x) (hdx : dk fl x) : sIV fl (upd (upd seen g (vp_nar .boolean 1)) x (vp_nar .boolean 1)) (upd frm g (nI f)) mate x0 := by
  have ng := dk_nb hA hdf
  refine ⟨fun k hk hnk hs => ?_, fun k hk hnk hs => ?_, fun d hd => su_1 (su_1 (h.2.2.1 d hd)), fun C hC1 hC2 d hd hdk hs => ?_⟩
  · by_cases e : k = g
    · subst e
      exact ⟨x, hx, hm, by rw [pk_us]; exact nar1⟩
    · have kx : k ≠ x := fun z => hnk (z ▸ hdx)
      rw [pk_un kx, pk_un e] at hs
      obtain ⟨y, y1, y2, y3⟩ := h.1 k hk hnk hs
      exact ⟨y, y1, y2, su_1 (su_1 y3)⟩
  · have kx : k ≠ x := fun z => hnk (z ▸ hdx)
    rw [pk_un kx] at hs
    exact saj_g h.2.1 hf hA ho k hk hnk hs
  · have l := h.2.2.2 C hC1 hC2
    by_cases e : d = x
    · subst e
      exact hC2 f g d (l f hf hdf hsf) hf hdf hg hA ho hx hm
    · have eg : d ≠ g := fun z => ng (z ▸ hdk)
      rw [pk_un e, pk_un eg] at hs
      exact l d hd hdk hs
def sIb (fl : Int64) (seen mate : Nat → Int32) (x0 : Int32) (i : Nat) : Prop := ∀ d, d < i → (¬ seen d = 0 ↔ sSt fl mate x0 d)
theorem sIb_up {i : Nat} {v : Int32} (hi : i < 64) (h : sIb fl seen mate x0 i) (hv : ¬ v = 0 ↔ sSt fl mate x0 i) : sIb fl (upd seen (nI i).toNatClampNeg v) mate x0 (i + 1) := by
  rw [nI_clamp (Nat.lt_trans hi (by decide))]
  intro d hd
  by_cases e : d = i
  · subst e
    rw [pk_us]
    exact hv
  · rw [pk_un e]
    exact h d (by omega)
theorem sib_1 {i : Nat} (hi : i < 64) (q : nI i = x0) : ¬ vp_nar .boolean 1 = 0 ↔ sSt fl mate x0 i := iff_of_true nar1 ⟨hi, Or.inl q⟩
theorem sib_2 {i : Nat} (hi : i < 64) (q2 : x0 < 0) (q3 : m_darkF fl (nI i) = true) (q4 : mate i = -1) : ¬ vp_nar .boolean 1 = 0 ↔ sSt fl mate x0 i := iff_of_true nar1 ⟨hi, Or.inr ⟨q2, q3, q4⟩⟩
theorem sib_3 {i : Nat} (q : ¬ nI i = x0) (q2 : ¬ x0 < 0) : ¬ vp_nar .boolean 0 = 0 ↔ sSt fl mate x0 i := iff_of_false (fun z => z (by decide)) (fun z => z.2.elim q (fun y => q2 y.1))
theorem sib_4 {i : Nat} (q : ¬ nI i = x0) (q3 : m_darkF fl (nI i) = false) : ¬ vp_nar .boolean 0 = 0 ↔ sSt fl mate x0 i := iff_of_false (fun z => z (by decide)) (fun z => z.2.elim q (fun y => by
  have k := y.2.1
  unfold dk at k
  rw [q3] at k
  exact absurd k (by decide)))
theorem sib_5 {i : Nat} (hi : i < 64) (q : ¬ nI i = x0) (q4 : 0 ≤ mate (nI i).toNatClampNeg) : ¬ vp_nar .boolean 0 = 0 ↔ sSt fl mate x0 i := iff_of_false (fun z => z (by decide)) (fun z => z.2.elim q (fun y => by
  rw [nI_clamp (Nat.lt_trans hi (by decide)), y.2.2] at q4
  exact absurd q4 (by decide)))
theorem sIV_0 {i : Nat} (e : i = 64) (h : sIb fl seen mate x0 i) (hd : ∀ d, d < 64 → nI d = x0 → dk fl d) : sIV fl seen frm mate x0 := by
  subst e
  have z : ∀ d, d < 64 → ¬ seen d = 0 → dk fl d := fun d hl hs => by
    obtain ⟨-, k | k⟩ := (h d hl).mp hs
    · exact hd d hl k
    · exact k.2.1
  exact ⟨fun k hk hnk hs => absurd (z k hk hs) hnk, fun k hk hnk hs => absurd (z k hk hs) hnk, fun d hd => (h d hd.1).mpr hd, fun C hC _ d hl _ hs => hC d ((h d hl).mp hs)⟩
theorem sk_end2 (h : SKg fl seen frm mate x0 g) (hj : sAJ fl seen frm) (hg : g < 64) (hm : mate g = -1) (hf : f < 64) (hdf : dk fl f) (hA : A8 f g = true) (ho : bfx fl g = true) (hl : lsC fl mate x0 f) : sfOk2 fl x0 frm mate (nI g) := by
  obtain ⟨T, P, N, hPg, ha, hb⟩ := h
  refine Or.inr ⟨g, hg, rfl, hm, ⟨T, P, hPg, fun k hk _ => ?_, fun k d hk hd e => ?_⟩, f, hf, hdf, hA, ho, hl⟩
  · obtain ⟨b1, b2, b3, b4, e, b5, b6, b7, b8, b9⟩ := hb k hk
    exact ⟨b1, b3, e, b5, b7, b8, b9, (ha e b5 b6 b7).2⟩
  · obtain ⟨b1, b2, b3, -⟩ := hb k hk
    obtain ⟨o, d', k1, k2, k3⟩ := hj k b1 b3 b2
    rw [nI_i64 hd k1 (e.symm.trans k2)]
    exact ⟨k3, o⟩
theorem wy_0 : sWy fl seen f 0 := fun _ _ w hw => absurd hw (Nat.not_lt_zero w)
theorem wy_s {wy : Nat} (h : sWy fl seen f wy) (hn : ∀ g, g < 64 → m_bes (nI f) (nI wy) = nI g → bfx fl g = true → ¬ seen g = 0) : sWy fl seen f (wy + 1) := by
  intro a b w hw
  by_cases e : w = wy
  · rw [e]; exact hn
  · exact h a b w (by omega)
theorem wn_1 {wy : Nat} (q : m_bes (nI f) (nI wy) < 0) : ∀ g, g < 64 → m_bes (nI f) (nI wy) = nI g → bfx fl g = true → ¬ seen g = 0 := fun g hg e _ => by
  rw [e] at q
  exact absurd q (nI_nn ⟨g, hg⟩)
theorem wn_2 {wy : Nat} (hg : g < 64) (e : m_bes (nI f) (nI wy) = nI g) (q : m_hasBit fl (nI g) = false) : ∀ k, k < 64 → m_bes (nI f) (nI wy) = nI k → bfx fl k = true → ¬ seen k = 0 := fun k hk ek ho => by
  rw [nI_i64 hk hg (ek.symm.trans e), ← hb_bf fl hg, q] at ho
  exact absurd ho (by decide)
theorem wn_3 {wy : Nat} (hg : g < 64) (e : m_bes (nI f) (nI wy) = nI g) (q : ¬ seen (nI g).toNatClampNeg = 0) : ∀ k, k < 64 → m_bes (nI f) (nI wy) = nI k → bfx fl k = true → ¬ seen k = 0 := fun k hk ek _ => by
  rw [nI_clamp (Nat.lt_trans hg (by decide))] at q
  rw [nI_i64 hk hg (ek.symm.trans e)]
  exact q
theorem scl_0 : sCl fl seen 0 := fun k h => absurd h (Nat.not_lt_zero k)
theorem scl_s {n : Nat} (h : sCl fl seen n) (hw : sWy fl seen n 4) : sCl fl seen (n + 1) := fun k hk => by
  by_cases e : k = n
  · rw [e]; exact hw
  · exact h k (by omega)
theorem scl_e {n : Nat} (e : n = 64) (h : sCl fl seen n) : sCl fl seen 64 := e ▸ h
theorem wy_4 {wy : Nat} (e : wy = 4) (h : sWy fl seen f wy) : sWy fl seen f 4 := e ▸ h
theorem wy_sn (hf : f < 64) (q : seen (nI f).toNatClampNeg = 0) : sWy fl seen f 4 := fun z => by
  rw [nI_clamp (Nat.lt_trans hf (by decide))] at q
  exact absurd q z
theorem wy_dn (q : m_darkF fl (nI f) = false) : sWy fl seen f 4 := fun _ z => by
  unfold dk at z
  rw [q] at z
  exact absurd z (by decide)
end SIV
/-- at the head of the reference's rounds -/
def MI2 (fl : Int64) (f : Nat) (mate : Nat → Int32) (v : Int32) : Prop := RG mate ∧ SYx mate 64 ∧ UN fl f mate ∧ PRp fl mate ∧ (∃ Tc, TCx fl Tc mate ∧ ∀ d, d < f → dk fl d → mate d = -1 → Tc d) ∧ v = nI (cnP (UD fl mate) f)
theorem MI2_0 {fl : Int64} {mate : Nat → Int32} {i : Nat} (e : i = 64) (h : ∀ k, k < i → mate k = -1) : MI2 fl 0 mate 0 := by
  obtain ⟨a, b, c⟩ := mt_0 e h
  refine ⟨a, b, c fl 0, fun k x hk hx z => ?_, ⟨fun _ => False, ⟨fun _ z => z.elim, fun _ _ z => z.elim⟩, fun d hd => absurd hd (Nat.not_lt_zero d)⟩, rfl⟩
  rw [h k (by omega)] at z
  exact absurd z.symm (nI_ne1 hx)
theorem MI2_n {fl : Int64} {f : Nat} {mate : Nat → Int32} {v : Int32} (h : MI2 fl f mate v) (q : m_darkF fl (nI f) = false) : MI2 fl (f + 1) mate v := by
  obtain ⟨a, b, c, d, ⟨Tc, t1, t2⟩, e⟩ := h
  have nd : ¬ dk fl f := fun z => by unfold dk at z; rw [q] at z; exact absurd z (by decide)
  refine ⟨a, b, un_s c, d, ⟨Tc, t1, fun k hk hkk => ?_⟩, ?_⟩
  · by_cases y : k = f
    · exact absurd (y ▸ hkk) nd
    · exact t2 k (by omega) hkk
  · rw [e, cnP_n (fun z => nd z.1)]
/-- a round that finds no way -/
theorem MI2_f {fl : Int64} {f : Nat} {mate seen : Nat → Int32} {v : Int32} (hf : f < 64) (h : MI2 fl f mate v) (q : m_darkF fl (nI f) = true) (hs : sEnd fl seen mate (nI f)) : MI2 fl (f + 1) mate (v + 1) := by
  obtain ⟨a, b, c, d, ⟨Tc, t1, t2⟩, e⟩ := h
  have mf := c f hf (Nat.le_refl f) q
  refine ⟨a, b, un_s c, d, ⟨fun k => Tc k ∨ (k < 64 ∧ dk fl k ∧ ¬ seen k = 0), ⟨?_, ?_⟩, fun k hk hkk hm => ?_⟩, ?_⟩
  · rintro k (z | z)
    · exact t1.1 k z
    · exact ⟨z.1, z.2.1⟩
  · rintro k g (z | z) hg hA ho
    · obtain ⟨x, x1, x2, x3, x4⟩ := t1.2 k g z hg hA ho
      exact ⟨x, x1, x2, Or.inl x3, x4⟩
    · obtain ⟨x, x1, x2, x3, x4⟩ := hs.1 k g z.1 z.2.1 z.2.2 hg hA ho
      exact ⟨x, x1, x2, Or.inr ⟨x1, x3⟩, x4⟩
  · by_cases y : k = f
    · subst y
      exact Or.inr ⟨hf, hkk, hs.2.1 k ⟨hf, Or.inl rfl⟩⟩
    · exact Or.inl (t2 k (by omega) hkk hm)
  · rw [e, cnP_y ⟨q, mf⟩, nI_1]
/-- a round that finds one -/
theorem MI2_y {fl : Int64} {f : Nat} {mate m0 : Nat → Int32} {v : Int32} {Tc : Nat → Prop} (hf : f < 64) (h0 : ∀ d, d < f → dk fl d → m0 d = -1 → Tc d) (hv : v = nI (cnP (UD fl m0) f)) (h : RG mate ∧ SYx mate 64 ∧ UN fl (f + 1) mate ∧ PRp fl mate ∧ TCx fl Tc mate ∧ (∀ k, k < 64 → dk fl k → k ≠ f → (mate k = -1 ↔ m0 k = -1)) ∧ ¬ mate f = -1) : MI2 fl (f + 1) mate v := by
  obtain ⟨a, b, c, d, t, u, w⟩ := h
  refine ⟨a, b, c, d, ⟨Tc, t, fun k hk hkk hm => ?_⟩, ?_⟩
  · by_cases y : k = f
    · rw [y] at hm; exact absurd hm w
    · exact h0 k (by omega) hkk ((u k (by omega) hkk y).mp hm)
  · rw [hv, cnP_n (fun z => w z.2), cnP_eq (P := UD fl m0) (Q := UD fl mate) (fun x hx => ⟨fun z => ⟨z.1, (u x (by omega) z.1 (by omega)).mpr z.2⟩, fun z => ⟨z.1, (u x (by omega) z.1 (by omega)).mp z.2⟩⟩)]
/-- the inner loop: either nothing to do, or a way -/
def WM2 (fl : Int64) (f tm : Nat) (v v1 : Int32) (mate frm : Nat → Int32) : Prop := (v = -1 ∧ MI2 fl (f + 1) mate v1) ∨ ∃ m0 Tc, (∀ d, d < f → dk fl d → m0 d = -1 → Tc d) ∧ v1 = nI (cnP (UD fl m0) f) ∧ WL2 fl f tm v mate frm m0 Tc
theorem wm_fail {fl : Int64} {f : Nat} {r v : Int32} {mate frm seen : Nat → Int32} (hf : f < 64) (h : MI2 fl f mate v) (q : m_darkF fl (nI f) = true) (hr : r < 0) (h1 : sfOk2 fl (nI f) frm mate r) (h2 : r = -1 → sEnd fl seen mate (nI f)) : WM2 fl f 0 r (v + 1) mate frm := by
  rcases h1 with e | ⟨g, hg, e, -⟩
  · exact Or.inl ⟨e, MI2_f hf h q (h2 e)⟩
  · rw [e] at hr
    exact absurd hr (nI_nn ⟨g, hg⟩)
theorem wm_ok {fl : Int64} {f : Nat} {r v : Int32} {mate frm : Nat → Int32} (hf : f < 64) (h : MI2 fl f mate v) (q : m_darkF fl (nI f) = true) (hr : ¬ r < 0) (h1 : sfOk2 fl (nI f) frm mate r) : ∃ tm, WM2 fl f tm r (v + 0) mate frm := by
  obtain ⟨a, b, c, d, ⟨Tc, t1, t2⟩, e⟩ := h
  rcases h1 with z | ⟨g, hg, hgr, hm, ⟨T, P, hP, hC, hJ⟩, -⟩
  · rw [z] at hr
    exact absurd (by decide) hr
  · refine ⟨T g + 1, Or.inr ⟨mate, Tc, t2, by rw [Int32.add_zero]; exact e, a, un_s c, d, t1, fun _ _ _ _ => Iff.rfl, Or.inr ⟨g, T, P, hg, hgr, hP, Nat.lt_succ_self _, ⟨fun k x hk hx _ z => b.1 k x hk hx (Nat.ne_of_lt hk) z, fun k hk _ z => ?_⟩, c f hf (Nat.le_refl f) q, ?_, hC, hJ⟩⟩⟩
    · have y := b.1 k g hk hg (Nat.ne_of_lt hk) z
      rw [hm] at y
      exact nI_ne1 hk y.symm
    · rintro ⟨t, ht, hA, ho⟩
      obtain ⟨x, x1, x2, -⟩ := t1.2 t g ht hg hA ho
      rw [hm] at x2
      exact nI_ne1 x1 x2.symm
theorem wm_pos {fl : Int64} {f tm : Nat} {v v1 : Int32} {mate frm : Nat → Int32} (h : WM2 fl f tm v v1 mate frm) (q : ¬ v < 0) : ∃ (m0 : Nat → Int32) (Tc : Nat → Prop) (g d : Nat) (T : Nat → Nat) (P : Nat → Prop), (∀ d, d < f → dk fl d → m0 d = -1 → Tc d) ∧ v1 = nI (cnP (UD fl m0) f) ∧ g < 64 ∧ d < 64 ∧ v = nI g ∧ T g < tm ∧ frm g = nI d ∧ WS2 fl f g d T P mate frm m0 Tc := by
  rcases h with ⟨e, -⟩ | ⟨m0, Tc, h0, hv, hw⟩
  · rw [e] at q
    exact absurd (by decide) q
  · obtain ⟨g, d, T, P, k⟩ := wl2_pos hw q
    exact ⟨m0, Tc, g, d, T, P, h0, hv, k⟩
theorem wm_end {fl : Int64} {f tm : Nat} {v v1 : Int32} {mate frm : Nat → Int32} (hf : f < 64) (h : WM2 fl f tm v v1 mate frm) (q : v < 0) : MI2 fl (f + 1) mate v1 := by
  rcases h with ⟨-, k⟩ | ⟨m0, Tc, h0, hv, hw⟩
  · exact k
  · exact MI2_y hf h0 hv (wl2_end hw q)
/-- at the end -/
theorem MI2_e {fl : Int64} {f : Nat} {mate : Nat → Int32} {v : Int32} (e : f = 64) (h : MI2 fl f mate v) : VM fl mate ∧ (∃ T, CT_ fl mate T) ∧ v = nI (lkN fl) := by
  subst e
  obtain ⟨a, b, c, d, ⟨Tc, t1, t2⟩, e⟩ := h
  have vm := vm_of a b d
  have ct : CT_ fl mate Tc := ⟨t1.1, t2, t1.2⟩
  exact ⟨vm, ⟨Tc, ct⟩, by rw [e, lk_eq ⟨mate, Tc, vm, ct, rfl⟩]⟩
noncomputable def aLack (fl : Int64) : Int32 := nI (lkN fl)
noncomputable def aLkg (fl : Int64) (x : Int32) : Int32 := if m_within x 0 63 = true then @ite Int32 (lrP fl x.toNatClampNeg) (Classical.propDecidable _) 1 0 else (-100001)
/-- from all that are left no way is found -/
theorem sf_none {fl : Int64} {mate frm seen : Nat → Int32} {r : Int32} (h : ∃ T, CT_ fl mate T) (h1 : sfOk2 fl (-1) frm mate r) (h2 : r = -1 → sEnd fl seen mate (-1)) : sEnd fl seen mate (-1) := by
  rcases h1 with e | ⟨g, hg, -, hm, -, f, hf, hdf, hA, ho, hl⟩
  · exact h2 e
  · obtain ⟨T, ct⟩ := h
    have tf := hl T (fun d hd => by
      obtain ⟨l, z | z⟩ := hd
      · exact absurd z (nI_ne1 l)
      · exact ct.2.1 d l z.2.1 z.2.2) (fun d k x td hd hk hk2 hA2 ho2 hx hm2 => by
      obtain ⟨y, y1, y2, y3, -⟩ := ct.2.2 d k td hk2 hA2 ho2
      rw [nI_i64 hx y1 (hm2.symm.trans y2)]
      exact y3)
    obtain ⟨x, x1, x2, -⟩ := ct.2.2 f g tf hg hA ho
    rw [hm] at x2
    exact absurd x2.symm (nI_ne1 x1)
theorem rl_of {fl : Int64} {mate seen : Nat → Int32} (h : sEnd fl seen mate (-1)) : RLs fl mate (fun d => d < 64 ∧ dk fl d ∧ ¬ seen d = 0) := by
  refine ⟨⟨fun d z => ⟨z.1, z.2.1⟩, fun d hd hk hm => ⟨hd, hk, h.2.1 d ⟨hd, Or.inr ⟨by decide, hk, hm⟩⟩⟩, fun d g z hg hA ho => ?_⟩, fun C c1 c2 d z => h.2.2 C (fun k hk => ?_) c2 d z.1 z.2.1 z.2.2⟩
  · obtain ⟨x, x1, x2, x3, x4⟩ := h.1 d g z.1 z.2.1 z.2.2 hg hA ho
    exact ⟨x, x1, x2, ⟨x1, x3⟩, x4⟩
  · obtain ⟨l, y | y⟩ := hk
    · exact absurd y (nI_ne1 l)
    · exact c1 k l y.2.1 y.2.2
theorem lkg_1 {fl : Int64} {x : Int32} (h : m_within x 0 63 = false) : (-100001 : Int32) = aLkg fl x := by rw [aLkg, h]; rfl
theorem lkg_y {fl : Int64} {x : Int32} (h : m_within x 0 63 = true) (h2 : lrP fl x.toNatClampNeg) : (1 : Int32) = aLkg fl x := by rw [aLkg, if_pos h, if_pos h2]
theorem lkg_n {fl : Int64} {x : Int32} (h : m_within x 0 63 = true) (h2 : ¬ lrP fl x.toNatClampNeg) : (0 : Int32) = aLkg fl x := by rw [aLkg, if_pos h, if_neg h2]
theorem on_hb {fl : Int64} {g : Nat} (hg : g < 64) (h : m_hasBit fl (nI g) = true) : bfx fl g = true := by rw [← hb_bf fl hg]; exact h
theorem sn_cl {seen : Nat → Int32} {f : Nat} (hf : f < 64) (h : ¬ seen (nI f).toNatClampNeg = 0) : ¬ seen f = 0 := by
  rw [nI_clamp (Nat.lt_trans hf (by decide))] at h
  exact h
theorem pr_dk {fl : Int64} {mate : Nat → Int32} {g x : Nat} (h : PRp fl mate) (hg : g < 64) (hx : x < 64) (hm : mate g = nI x) (hn : ¬ dk fl g) : dk fl x := by
  rcases h g x hg hx hm with z | z
  · exact absurd z.1 hn
  · exact z.1
theorem hdx_f {fl : Int64} {f : Nat} (hf : f < 64) (h : m_darkF fl (nI f) = true) : ∀ d, d < 64 → nI d = nI f → dk fl d := fun d hd e => by
  rw [nI_i64 hd hf e]
  exact h
section LKM
variable {J0 fl : Int64} {mate seen frm : Nat → Int32} {x r : Int32}
theorem lk_x (h : m_within x 0 63 = true) : x.toNatClampNeg < 64 ∧ nI x.toNatClampNeg = x := by
  obtain ⟨j, hj, e⟩ := vp_in_of (within_in64 h) (by decide)
  rw [e, cl_64 hj]
  exact ⟨hj, rfl⟩
theorem lkM_iff (eJ : J0 = fl) (h : m_within x 0 63 = true) (vm : VM J0 mate) (ct : ∃ T, CT_ J0 mate T) (h1 : sfOk2 J0 (-1) frm mate r) (h2 : r = -1 → sEnd J0 seen mate (-1)) : (m_darkF J0 x = true ∧ ¬ seen x.toNatClampNeg = 0) ↔ lrP fl x.toNatClampNeg := by
  subst eJ
  obtain ⟨l, e⟩ := lk_x h
  rw [← lr_iff vm (rl_of (sf_none ct h1 h2)) x.toNatClampNeg]
  unfold dk
  rw [e]
  exact ⟨fun z => ⟨l, z.1, z.2⟩, fun z => z.2⟩
end LKM
