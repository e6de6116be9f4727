def bf (x : Int64) : Nat → Bool := fun g => (uN x).testBit g
theorem hasBit_bf (x : Int64) {g : Nat} (hg : g < 64) : m_hasBit x (nI g) = bf x g := by
  rw [hasBit_nat x hg, ← Nat.testBit_eq_decide_div_mod_eq]
  rfl
theorem uN_or (x y : Int64) : uN (x ||| y) = uN x ||| uN y := UInt64.toNat_or _ _
theorem uN_xor (x y : Int64) : uN (x ^^^ y) = uN x ^^^ uN y := UInt64.toNat_xor _ _
theorem one_t : ∀ f : Fin 64, uN ((1 : Int64) <<< ((nI f.val).toInt64 &&& 63)) = 2 ^ f.val := by decide +kernel
theorem ala_t : ∀ f : Fin 56, uN (m_alongAt (nI f.val)) = 2 ^ f.val ||| 2 ^ (f.val + 8) := by decide +kernel
theorem aca_t : ∀ f : Fin 56, uN (m_acrossAt (nI f.val)) = 2 ^ f.val ||| 2 ^ (f.val + 1) := by decide +kernel
def sB (A : Nat → Bool) (f : Nat) : Nat → Bool := fun k => decide (f = k) || A k
def fB (A : Nat → Bool) (f g : Nat) : Nat → Bool := fun k => A k ^^ (decide (f = k) || decide (g = k))
theorem bf_or1 (x : Int64) {f : Nat} (hf : f < 64) : bf (x ||| (1 : Int64) <<< ((nI f).toInt64 &&& 63)) = sB (bf x) f := by
  funext k
  have e := one_t ⟨f, hf⟩
  dsimp only at e
  unfold bf sB
  rw [uN_or, e, Nat.testBit_or, Nat.testBit_two_pow, Bool.or_comm]
theorem bf_or0 (x : Int64) : bf (x ||| 0) = bf x := by
  funext k
  unfold bf
  rw [uN_or, show uN 0 = 0 from rfl, Nat.testBit_or, Nat.zero_testBit, Bool.or_false]
theorem bf_al (x : Int64) {f : Nat} (hf : f < 56) : bf (x ^^^ m_alongAt (nI f)) = fB (bf x) f (f + 8) := by
  funext k
  have e := ala_t ⟨f, hf⟩
  dsimp only at e
  unfold bf fB
  rw [uN_xor, e, Nat.testBit_xor, Nat.testBit_or, Nat.testBit_two_pow, Nat.testBit_two_pow]
theorem bf_ac (x : Int64) {f : Nat} (hf : f < 56) : bf (x ^^^ m_acrossAt (nI f)) = fB (bf x) f (f + 1) := by
  funext k
  have e := aca_t ⟨f, hf⟩
  dsimp only at e
  unfold bf fB
  rw [uN_xor, e, Nat.testBit_xor, Nat.testBit_or, Nat.testBit_two_pow, Nat.testBit_two_pow]
def am1 (a b c d : Bool) : Bool := (!a || (!b && !c && !d)) && (!b || (!c && !d)) && (!c || !d)
def pl (A : Nat → Bool) (h : Nat) : Bool := decide (0 < h % 8) && A (h - 1)
def pu (B : Nat → Bool) (h : Nat) : Bool := decide (8 ≤ h) && B (h - 8)
def DJ (A B : Nat → Bool) : Prop := ∀ h, h < 64 → am1 (A h) (pl A h) (B h) (pu B h) = true
theorem am_a {a b c d : Bool} (h : am1 a b c d = true) (q : a = true) : b = false ∧ c = false ∧ d = false := by
  cases a <;> cases b <;> cases c <;> cases d <;> simp_all [am1]
theorem am_b {a b c d : Bool} (h : am1 a b c d = true) (q : b = true) : a = false ∧ c = false ∧ d = false := by
  cases a <;> cases b <;> cases c <;> cases d <;> simp_all [am1]
theorem am_c {a b c d : Bool} (h : am1 a b c d = true) (q : c = true) : a = false ∧ b = false ∧ d = false := by
  cases a <;> cases b <;> cases c <;> cases d <;> simp_all [am1]
theorem am_d {a b c d : Bool} (h : am1 a b c d = true) (q : d = true) : a = false ∧ b = false ∧ c = false := by
  cases a <;> cases b <;> cases c <;> cases d <;> simp_all [am1]
theorem fB_n {A : Nat → Bool} {f g k : Nat} (h1 : f ≠ k) (h2 : g ≠ k) : fB A f g k = A k := by
  unfold fB
  rw [decide_eq_false h1, decide_eq_false h2, Bool.or_false, Bool.xor_false]
theorem fB_1 {A : Nat → Bool} {f g : Nat} : fB A f g f = !A f := by
  unfold fB
  rw [decide_eq_true rfl, Bool.true_or, Bool.xor_true]
theorem fB_2 {A : Nat → Bool} {f g : Nat} : fB A f g g = !A g := by
  unfold fB
  rw [decide_eq_true (rfl : g = g), Bool.or_true, Bool.xor_true]
theorem pl_n {A : Nat → Bool} {f g h : Nat} (h1 : 0 < h % 8 → f ≠ h - 1) (h2 : 0 < h % 8 → g ≠ h - 1) : pl (fB A f g) h = pl A h := by
  unfold pl
  by_cases z : 0 < h % 8
  · rw [fB_n (h1 z) (h2 z)]
  · rw [decide_eq_false z, Bool.false_and, Bool.false_and]
theorem pu_n {A : Nat → Bool} {f g h : Nat} (h1 : 8 ≤ h → f ≠ h - 8) (h2 : 8 ≤ h → g ≠ h - 8) : pu (fB A f g) h = pu A h := by
  unfold pu
  by_cases z : 8 ≤ h
  · rw [fB_n (h1 z) (h2 z)]
  · rw [decide_eq_false z, Bool.false_and, Bool.false_and]
theorem pl_s {A : Nat → Bool} {f : Nat} (h : f % 8 < 7) : pl A (f + 1) = A f := by
  unfold pl
  rw [decide_eq_true (show 0 < (f + 1) % 8 by omega), Bool.true_and, Nat.add_sub_cancel]
theorem pu_s {A : Nat → Bool} {f : Nat} : pu A (f + 8) = A f := by
  unfold pu
  rw [decide_eq_true (show 8 ≤ f + 8 by omega), Bool.true_and, Nat.add_sub_cancel]
theorem dj_out {A B : Nat → Bool} {f h : Nat} (hd : DJ A B) (hh : h < 64) (h1 : h ≠ f) (h2 : h ≠ f + 1) (h3 : h ≠ f + 8) (h4 : h ≠ f + 9) : am1 (fB A f (f + 8) h) (pl (fB A f (f + 8)) h) (fB B f (f + 1) h) (pu (fB B f (f + 1)) h) = true := by
  rw [fB_n (fun z => h1 z.symm) (fun z => h3 z.symm), fB_n (fun z => h1 z.symm) (fun z => h2 z.symm), pl_n (by omega) (by omega), pu_n (by omega) (by omega)]
  exact hd h hh
theorem dj_1 {A B : Nat → Bool} {f : Nat} (hd : DJ A B) (hf : f % 8 < 7) (hf2 : f < 55) (a1 : A f = true) (a2 : A (f + 8) = true) : B f = false ∧ B (f + 1) = false ∧ DJ (fB A f (f + 8)) (fB B f (f + 1)) := by
  have k0 := am_a (hd f (by omega)) a1
  have k1 := am_b (hd (f + 1) (by omega)) ((pl_s hf).trans a1)
  have k8 := am_a (hd (f + 8) (by omega)) a2
  have k9 := am_b (hd (f + 8 + 1) (by omega)) ((pl_s (f := f + 8) (by omega)).trans a2)
  refine ⟨k0.2.1, k1.2.1, fun h hh => ?_⟩
  by_cases q0 : h = f
  · subst q0
    rw [fB_1, fB_1, a1, k0.2.1, pl_n (by omega) (by omega), pu_n (by omega) (by omega), k0.1, k0.2.2]
    rfl
  by_cases q1 : h = f + 1
  · subst q1
    rw [fB_n (by omega) (by omega), fB_2, k1.1, k1.2.1, pl_s hf, fB_1, a1, pu_n (by omega) (by omega), k1.2.2]
    rfl
  by_cases q2 : h = f + 8
  · subst q2
    rw [fB_2, a2, pl_n (by omega) (by omega), k8.1, fB_n (by omega) (by omega), k8.2.1, pu_s, fB_1, k0.2.1]
    rfl
  by_cases q3 : h = f + 8 + 1
  · subst q3
    rw [fB_n (by omega) (by omega), k9.1, pl_s (f := f + 8) (by omega), fB_2, a2, fB_n (by omega) (by omega), k9.2.1, show f + 8 + 1 = (f + 1) + 8 by omega, pu_s, fB_2, k1.2.1]
    rfl
  exact dj_out hd hh q0 q1 q2 q3
theorem dj_2 {A B : Nat → Bool} {f : Nat} (hd : DJ A B) (hf : f % 8 < 7) (hf2 : f < 55) (b1 : B f = true) (b2 : B (f + 1) = true) : DJ (fB A f (f + 8)) (fB B f (f + 1)) := by
  have k0 := am_c (hd f (by omega)) b1
  have k1 := am_c (hd (f + 1) (by omega)) b2
  have k8 := am_d (hd (f + 8) (by omega)) (pu_s.trans b1)
  have k9 := am_d (hd (f + 1 + 8) (by omega)) (pu_s.trans b2)
  intro h hh
  by_cases q0 : h = f
  · subst q0
    rw [fB_1, fB_1, b1, k0.1, pl_n (by omega) (by omega), pu_n (by omega) (by omega), k0.2.1, k0.2.2]
    rfl
  by_cases q1 : h = f + 1
  · subst q1
    rw [fB_n (by omega) (by omega), fB_2, k1.1, b2, pl_s hf, fB_1, k0.1, pu_n (by omega) (by omega), k1.2.2]
    rfl
  by_cases q2 : h = f + 8
  · subst q2
    rw [fB_2, k8.1, pl_n (by omega) (by omega), k8.2.1, fB_n (by omega) (by omega), k8.2.2, pu_s, fB_1, b1]
    rfl
  by_cases q3 : h = f + 1 + 8
  · subst q3
    rw [fB_n (by omega) (by omega), k9.1, fB_n (by omega) (by omega), k9.2.2, pu_s, fB_2, b2, show f + 1 + 8 = (f + 8) + 1 by omega, pl_s (f := f + 8) (by omega), fB_2, k8.1]
    rfl
  exact dj_out hd hh q0 q1 q2 (fun z => q3 (by omega))
def dN (g : Nat) : Bool := decide ((g % 8 + g / 8) % 2 = 0)
def wt (hi : Bool) (g : Nat) (b : Bool) : Nat := if (b == (dN g == hi)) = true then 8 - g % 8 else 0
def ps (hi : Bool) (B : Nat → Bool) : Nat → Nat
  | 0 => 0
  | n + 1 => ps hi B n + wt hi n (B n)
theorem ps_out {hi : Bool} {B : Nat → Bool} {f g : Nat} : ∀ n, n ≤ f → n ≤ g → ps hi (fB B f g) n = ps hi B n
  | 0, _, _ => rfl
  | n + 1, h1, h2 => by rw [ps, ps, ps_out n (by omega) (by omega), fB_n (by omega) (by omega)]
theorem ps_ar {a b c : Nat} (h : a + 1 = b) : a + c + 1 = b + c := by omega
theorem ps_ar2 {a u v x y : Nat} (h : u + v + 1 = x + y) : a + u + v + 1 = a + x + y := by omega
theorem ps_two {hi : Bool} {B : Nat → Bool} {f : Nat} (h : wt hi f (!B f) + wt hi (f + 1) (!B (f + 1)) + 1 = wt hi f (B f) + wt hi (f + 1) (B (f + 1))) : ∀ n, f + 2 ≤ n → ps hi (fB B f (f + 1)) n + 1 = ps hi B n
  | 0, z => absurd z (by omega)
  | n + 1, z => by
    rw [ps, ps]
    by_cases e : n = f + 1
    · subst e
      rw [ps, ps, ps_out f (Nat.le_refl f) (Nat.le_succ f), fB_1, fB_2]
      exact ps_ar2 h
    · rw [fB_n (by omega) (by omega)]
      exact ps_ar (ps_two h n (by omega))
theorem dN_s {f : Nat} (hf : f % 8 < 7) : dN (f + 1) = !dN f := by
  unfold dN
  have e1 : (f + 1) % 8 = f % 8 + 1 := by omega
  have e2 : (f + 1) / 8 = f / 8 := by omega
  rw [e1, e2]
  by_cases z : (f % 8 + f / 8) % 2 = 0
  · rw [decide_eq_true z, decide_eq_false (by omega)]
    rfl
  · rw [decide_eq_false z, decide_eq_true (by omega)]
    rfl
theorem wt_ar {f : Nat} (hf : f % 8 < 7) : 0 + (8 - (f + 1) % 8) + 1 = 8 - f % 8 + 0 := by omega
theorem wt_fall {hi u : Bool} {f : Nat} (hf : f % 8 < 7) (h : (u == (dN f == hi)) = true) : wt hi f (!u) + wt hi (f + 1) (!u) + 1 = wt hi f u + wt hi (f + 1) u := by
  unfold wt
  rw [dN_s hf]
  generalize dN f = d at h ⊢
  have g1 := wt_ar hf
  generalize 8 - f % 8 = p at g1 ⊢
  generalize 8 - (f + 1) % 8 = q at g1 ⊢
  cases u <;> cases d <;> cases hi <;> simp_all
theorem drk_t : ∀ f : Fin 64, m_isDark (nI f.val - nI f.val / 8 * 8) (nI f.val / 8) = dN f.val := by decide +kernel
def tAk (al ac : Int64) (f : Nat) (r : Int32) : Prop := r = 0 ∨ (r = 1 ∧ f % 8 < 7 ∧ f < 55 ∧ bf al f = true ∧ bf al (f + 8) = true) ∨ (r = 2 ∧ f % 8 < 7 ∧ f < 55 ∧ bf ac f = true ∧ bf ac (f + 1) = true)
theorem ta_t : ∀ f : Fin 64, ¬ (6 : Int32) < nI f.val - nI f.val / 8 * 8 → nI f.val / 8 ≤ 6 → f.val % 8 < 7 ∧ f.val < 55 := by decide +kernel
theorem ta_1 {al ac : Int64} {f : Nat} (hf : f < 64) (h1 : ¬ (6 : Int32) < nI f - nI f / 8 * 8) (h2 : nI f / 8 ≤ 6) (a1 : m_hasBit al (nI f) = true) (a2 : m_hasBit al (nI f + 8) = true) : tAk al ac f 1 := by
  obtain ⟨k1, k2⟩ := ta_t ⟨f, hf⟩ h1 h2
  rw [hasBit_bf al hf] at a1
  rw [show (8 : Int32) = nI 8 from rfl, nI_add, hasBit_bf al (show f + 8 < 64 by dsimp only at k2; omega)] at a2
  exact Or.inr (Or.inl ⟨rfl, k1, k2, a1, a2⟩)
theorem ta_2 {al ac : Int64} {f : Nat} (hf : f < 64) (h1 : ¬ (6 : Int32) < nI f - nI f / 8 * 8) (h2 : nI f / 8 ≤ 6) (a1 : m_hasBit ac (nI f) = true) (a2 : m_hasBit ac (nI f + 1) = true) : tAk al ac f 2 := by
  obtain ⟨k1, k2⟩ := ta_t ⟨f, hf⟩ h1 h2
  rw [hasBit_bf ac hf] at a1
  rw [nI_1, hasBit_bf ac (show f + 1 < 64 by dsimp only at k2; omega)] at a2
  exact Or.inr (Or.inr ⟨rfl, k1, k2, a1, a2⟩)
theorem ex_u {d hi : Bool} (h : ¬ bI (d == true) = bI hi) : (false == (d == hi)) = true := by
  cases d <;> cases hi <;> simp_all
theorem ex_v {d hi : Bool} (h : ¬ bI (d == false) = bI hi) : (true == (d == hi)) = true := by
  cases d <;> cases hi <;> simp_all
theorem ex_flip {al ac : Int64} {f : Nat} {r : Int32} {hi : Bool} (hf : f < 64) (hd : DJ (bf al) (bf ac)) (hk : tAk al ac f r) (hr : ¬ r ≤ 0) (hq : ¬ bI (m_isDown (nI f) r) = bI hi) : DJ (bf (al ^^^ m_alongAt (nI f))) (bf (ac ^^^ m_acrossAt (nI f))) ∧ ps hi (bf (ac ^^^ m_acrossAt (nI f))) 64 + 1 = ps hi (bf ac) 64 := by
  have ed := drk_t ⟨f, hf⟩
  dsimp only at ed
  unfold m_isDown at hq
  rw [ed] at hq
  rcases hk with rfl | ⟨rfl, k1, k2, a1, a2⟩ | ⟨rfl, k1, k2, a1, a2⟩
  · exact absurd (by decide) hr
  · obtain ⟨b1, b2, d⟩ := dj_1 hd k1 k2 a1 a2
    rw [bf_al al (by omega), bf_ac ac (by omega)]
    refine ⟨d, ps_two ?_ 64 (by omega)⟩
    rw [b1, b2]
    exact wt_fall k1 (ex_u hq)
  · have d := dj_2 hd k1 k2 a1 a2
    rw [bf_al al (by omega), bf_ac ac (by omega)]
    refine ⟨d, ps_two ?_ 64 (by omega)⟩
    rw [a1, a2]
    exact wt_fall k1 (ex_v hq)
theorem ex_c {a b c d : Nat} (h : a + 1 = b) (hc : b + d ≤ c) : a + 1 ≤ c := by omega
theorem ps_no {hi : Bool} {B : Nat → Bool} : ps hi B 64 + bN false ≤ ps hi B 64 := by
  rw [show bN false = 0 from rfl]
  exact Nat.le_of_eq (Nat.add_zero _)
