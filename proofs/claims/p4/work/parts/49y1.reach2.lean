/-! ===== the outside ===== -/
theorem rg_top : ∀ k : Fin 9, A10 k.val (k.val + 1) = true ∧ rng (k.val + 1) = true := by decide
theorem rg_lef : ∀ k : Fin 9, A10 (10 * k.val) (10 * (k.val + 1)) = true ∧ rng (10 * (k.val + 1)) = true := by decide
theorem rg_bot : ∀ k : Fin 9, A10 (90 + k.val) (90 + (k.val + 1)) = true ∧ rng (90 + (k.val + 1)) = true := by decide
theorem rg_rig : ∀ k : Fin 9, A10 (9 + 10 * k.val) (9 + 10 * (k.val + 1)) = true ∧ rng (9 + 10 * (k.val + 1)) = true := by decide
section OUT
variable {m8 m10 : Nat → Bool}
theorem ro_a (hr : ∀ p, p < 100 → rng p = true → m10 p = true) : ∀ k, k ≤ 9 → rch m10 A10 0 k
  | 0, _ => rch_r
  | k + 1, h => by
    have t := rg_top ⟨k, by omega⟩
    exact rch_s (ro_a hr k (by omega)) (hr _ (by omega) t.2) t.1
theorem ro_b (hr : ∀ p, p < 100 → rng p = true → m10 p = true) : ∀ k, k ≤ 9 → rch m10 A10 0 (10 * k)
  | 0, _ => rch_r
  | k + 1, h => by
    have t := rg_lef ⟨k, by omega⟩
    exact rch_s (ro_b hr k (by omega)) (hr _ (by omega) t.2) t.1
theorem ro_c (hr : ∀ p, p < 100 → rng p = true → m10 p = true) : ∀ k, k ≤ 9 → rch m10 A10 0 (90 + k)
  | 0, _ => ro_b hr 9 (by omega)
  | k + 1, h => by
    have t := rg_bot ⟨k, by omega⟩
    exact rch_s (ro_c hr k (by omega)) (hr _ (by omega) t.2) t.1
theorem ro_d (hr : ∀ p, p < 100 → rng p = true → m10 p = true) : ∀ k, k ≤ 9 → rch m10 A10 0 (9 + 10 * k)
  | 0, _ => ro_a hr 9 (by omega)
  | k + 1, h => by
    have t := rg_rig ⟨k, by omega⟩
    exact rch_s (ro_d hr k (by omega)) (hr _ (by omega) t.2) t.1
theorem ro_all (hr : ∀ p, p < 100 → rng p = true → m10 p = true) {p : Nat} (hp : p < 100) (h : rng p = true) : rch m10 A10 0 p := by
  unfold rng at h
  rw [Bool.or_eq_true, Bool.or_eq_true, Bool.or_eq_true, decide_eq_true_iff, decide_eq_true_iff, decide_eq_true_iff, decide_eq_true_iff] at h
  rcases h with h | h | h | h
  · exact ro_a hr p (by omega)
  · have := ro_c hr (p - 90) (by omega)
    rw [show 90 + (p - 90) = p by omega] at this
    exact this
  · have := ro_b hr (p / 10) (by omega)
    rw [show 10 * (p / 10) = p by omega] at this
    exact this
  · have := ro_d hr (p / 10) (by omega)
    rw [show 9 + 10 * (p / 10) = p by omega] at this
    exact this
def rim8 (f : Nat) : Bool := decide (f < 8) || (decide (56 ≤ f) || (decide (f % 8 = 0) || decide (f % 8 = 7)))
def raf (f : Nat) : Nat := if f < 8 then e10 f - 10 else if 56 ≤ f then e10 f + 10 else if f % 8 = 0 then e10 f - 1 else e10 f + 1
theorem rim_a : ∀ f : Fin 64, rim8 f.val = true → raf f.val < 100 ∧ rng (raf f.val) = true ∧ A10 (raf f.val) (e10 f.val) = true := by decide +kernel
theorem rim_b : ∀ a : Fin 100, ∀ f : Fin 64, rng a.val = true → A10 a.val (e10 f.val) = true → rim8 f.val = true := by decide +kernel
theorem out_iff (hm : ∀ f, f < 64 → m10 (e10 f) = m8 f) (hr : ∀ p, p < 100 → rng p = true → m10 p = true) {R : Nat → Prop} (h1 : ∀ f, f < 64 → rim8 f = true → m8 f = true → R f) (h2 : ∀ a b, R a → m8 b = true → A8 a b = true → R b) (h3 : ∀ q, R q → ∃ p, p < 64 ∧ rim8 p = true ∧ m8 p = true ∧ rch m8 A8 p q) : cFr m10 A10 100 = 1 ↔ ∀ f, f < 64 → m8 f = true → R f := by
  have h00 : m10 0 = true := hr 0 (by decide) rfl
  constructor
  · intro hc f hf hM
    have hl := e_lt hf
    have z := sc_two h00 hc (e10 f) hl.1 (by rw [hm f hf]; exact hM)
    have w := z (fun p => rng p = true ∨ ∃ x, x < 64 ∧ p = e10 x ∧ R x) (Or.inl rfl) (fun a b ha hMb hA => by
      have l := A10_lt hA
      cases q : rng b with
      | true => exact Or.inl rfl
      | false =>
        obtain ⟨i1, i2⟩ := i_lt l.2 q
        refine Or.inr ⟨i10 b, i1, i2.symm, ?_⟩
        have hMi : m8 (i10 b) = true := by rw [← hm _ i1, i2]; exact hMb
        rcases ha with ha | ⟨x, hx, rfl, cx⟩
        · exact h1 _ i1 (rim_b ⟨a, l.1⟩ ⟨i10 b, i1⟩ ha (by show A10 a (e10 (i10 b)) = true; rw [i2]; exact hA)) hMi
        · refine h2 x _ cx hMi ?_
          have y := A_up ⟨x, hx⟩ ⟨i10 b, i1⟩
          dsimp only at y
          rw [← y, i2]; exact hA)
    rcases w with w | ⟨x, hx, ex, cx⟩
    · rw [hl.2.1] at w; exact absurd w (by decide)
    · rw [e_inj ex]; exact cx
  · intro hall
    refine sc_one h00 (by decide) (fun q hq hM => ?_)
    cases z : rng q with
    | true => exact ro_all hr hq z
    | false =>
      obtain ⟨i1, i2⟩ := i_lt hq z
      have hMi : m8 (i10 q) = true := by rw [← hm _ i1, i2]; exact hM
      obtain ⟨p, hp, hrim, hMp, hrc⟩ := h3 _ (hall _ i1 hMi)
      obtain ⟨k1, k2, k3⟩ := rim_a ⟨p, hp⟩ hrim
      have a1 := rch_s (ro_all hr k1 k2) (show m10 (e10 p) = true by rw [hm p hp]; exact hMp) k3
      have a2 := r_up hm hp hrc
      rw [i2] at a2
      exact rch_t a1 a2
end OUT
/-! ===== the class's sets ===== -/
theorem bs1 (x : Int64) (j : Nat) : bfx (x <<< ((1 : Int32).toInt64 &&& 63)) j = (decide (j < 64) && (!decide (j < 1) && bfx x (j - 1))) := by
  show (x.toBitVec <<< (1 : Nat)).getLsbD j = _
  rw [BitVec.getLsbD_shiftLeft, Bool.and_assoc]
  rfl
theorem bs8 (x : Int64) (j : Nat) : bfx (x <<< ((8 : Int32).toInt64 &&& 63)) j = (decide (j < 64) && (!decide (j < 8) && bfx x (j - 8))) := by
  show (x.toBitVec <<< (8 : Nat)).getLsbD j = _
  rw [BitVec.getLsbD_shiftLeft, Bool.and_assoc]
  rfl
theorem br1 (x : Int64) (j : Nat) : bfx (x.toUInt64 >>> ((1 : Int32).toInt64.toUInt64 &&& Int64.toUInt64 63)).toInt64 j = bfx x (j + 1) := by
  have e := uN_sk x (k := 1) (by decide)
  show (uN (x.toUInt64 >>> ((nI 1).toInt64.toUInt64 &&& Int64.toUInt64 63)).toInt64).testBit j = _
  rw [e, Nat.testBit_div_two_pow]
  rfl
theorem br8 (x : Int64) (j : Nat) : bfx (x.toUInt64 >>> ((8 : Int32).toInt64.toUInt64 &&& Int64.toUInt64 63)).toInt64 j = bfx x (j + 8) := by
  have e := uN_sk x (k := 8) (by decide)
  show (uN (x.toUInt64 >>> ((nI 8).toInt64.toUInt64 &&& Int64.toUInt64 63)).toInt64).testBit j = _
  rw [e, Nat.testBit_div_two_pow]
  rfl
theorem mkR : ∀ j : Fin 64, bfx 9187201950435737471 j.val = decide (j.val % 8 < 7) := by decide +kernel
theorem mkL : ∀ j : Fin 64, bfx (-72340172838076674) j.val = decide (0 < j.val % 8) := by decide +kernel
theorem mkRim : ∀ j : Fin 64, bfx g_RIM j.val = rim8 j.val := by decide +kernel
theorem bx_lt {x : Int64} {j : Nat} (h : bfx x j = true) : j < 64 := by
  rcases Nat.lt_or_ge j 64 with y | y
  · exact y
  · rw [bf_hi x y] at h; exact absurd h (by decide)
theorem A8_i {a b : Nat} (ha : a < 64) (hb : b < 64) (h : (b = a + 1 ∧ a % 8 < 7) ∨ (a = b + 1 ∧ b % 8 < 7) ∨ b = a + 8 ∨ a = b + 8) : A8 a b = true := by
  unfold A8
  simp only [Bool.and_eq_true, Bool.or_eq_true, decide_eq_true_iff]
  exact ⟨ha, hb, h⟩
theorem bes (x : Int64) {j : Nat} (hj : j < 64) : bfx (g_beside x) j = true ↔ ∃ a, bfx x a = true ∧ A8 a j = true := by
  unfold g_beside
  rw [bf_or, bf_or, bf_or, bs1, br1, bs8, br8, bf_and, bf_and]
  simp only [Bool.or_eq_true, Bool.and_eq_true, Bool.not_eq_true', decide_eq_true_iff, decide_eq_false_iff_not]
  constructor
  · rintro (((⟨-, h1, h2, h3⟩ | ⟨h2, h3⟩) | ⟨-, h1, h2⟩) | h2)
    · have l := bx_lt h2
      rw [mkR ⟨j - 1, l⟩, decide_eq_true_iff] at h3
      dsimp only at h3
      exact ⟨j - 1, h2, A8_i l hj (by omega)⟩
    · have l := bx_lt h2
      rw [mkL ⟨j + 1, l⟩, decide_eq_true_iff] at h3
      dsimp only at h3
      exact ⟨j + 1, h2, A8_i l hj (by omega)⟩
    · have l := bx_lt h2
      exact ⟨j - 8, h2, A8_i l hj (by omega)⟩
    · have l := bx_lt h2
      exact ⟨j + 8, h2, A8_i l hj (by omega)⟩
  · rintro ⟨a, h1, h2⟩
    have l := bx_lt h1
    unfold A8 at h2
    simp only [Bool.and_eq_true, Bool.or_eq_true, decide_eq_true_iff] at h2
    rcases h2.2.2 with z | z | z | z
    · refine Or.inl (Or.inl (Or.inl ⟨hj, by omega, ?_, ?_⟩))
      · rw [show j - 1 = a by omega]; exact h1
      · rw [mkR ⟨j - 1, by omega⟩, decide_eq_true_iff]
        show (j - 1) % 8 < 7
        rw [show j - 1 = a by omega]; exact z.2
    · refine Or.inl (Or.inl (Or.inr ⟨?_, ?_⟩))
      · rw [show j + 1 = a by omega]; exact h1
      · rw [mkL ⟨j + 1, by omega⟩, decide_eq_true_iff]
        show 0 < (j + 1) % 8
        omega
    · refine Or.inl (Or.inr ⟨hj, by omega, ?_⟩)
      rw [show j - 8 = a by omega]; exact h1
    · refine Or.inr ?_
      rw [show j + 8 = a by omega]; exact h1
theorem cn_s (x : Int64) {n : Nat} (hn : n < 64) : m_cnt x (n + 1) = m_cnt x n + bN (bfx x n) := by
  show m_cnt x n + (if m_hasBit x (nI n) then 1 else 0) = _
  rw [hb_bf x hn]
  rfl
theorem cn_le {x y : Int64} (h : ∀ j, bfx x j = true → bfx y j = true) : ∀ n, n ≤ 64 → m_cnt x n ≤ m_cnt y n
  | 0, _ => Nat.le_refl _
  | n + 1, hn => by
    rw [cn_s x (by omega), cn_s y (by omega)]
    have ih := cn_le h n (by omega)
    cases q : bfx x n with
    | false => rw [bN_f]; omega
    | true => rw [h n q]; omega
theorem cn_lt {x y : Int64} (h : ∀ j, bfx x j = true → bfx y j = true) {k : Nat} (hx : bfx x k = false) (hy : bfx y k = true) : ∀ n, n ≤ 64 → k < n → m_cnt x n < m_cnt y n
  | 0, _, hk => absurd hk (Nat.not_lt_zero k)
  | n + 1, hn, hk => by
    rw [cn_s x (by omega), cn_s y (by omega)]
    by_cases e : k = n
    · subst e
      rw [hx, hy, bN_f, bN_t]
      have := cn_le h k (by omega)
      omega
    · have ih := cn_lt h hx hy n (by omega) (by omega)
      cases q : bfx x n with
      | false => rw [bN_f]; omega
      | true => rw [h n q]; omega
theorem cn_b (x : Int64) : ∀ n, n ≤ 64 → m_cnt x n ≤ n
  | 0, _ => Nat.le_refl _
  | n + 1, hn => by
    rw [cn_s x (by omega)]
    have := cn_b x n (by omega)
    have := bN_le (bfx x n)
    omega
theorem cn_f {x : Int64} : ∀ n, n ≤ 64 → n ≤ m_cnt x n → ∀ j, j < n → bfx x j = true
  | 0, _, _, j, hj => absurd hj (Nat.not_lt_zero j)
  | n + 1, hn, h, j, hj => by
    rw [cn_s x (by omega)] at h
    have b1 := cn_b x n (by omega)
    have b2 := bN_le (bfx x n)
    by_cases e : j = n
    · subst e
      exact bN_1 (by omega)
    · exact cn_f n (by omega) (by omega) j (by omega)
theorem bx_ext {x y : Int64} (h : ∀ j, j < 64 → bfx x j = bfx y j) : x = y := by
  apply uN_inj
  apply Nat.eq_of_testBit_eq
  intro j
  rcases Nat.lt_or_ge j 64 with z | z
  · exact h j z
  · exact (bf_hi x z).trans (bf_hi y z).symm
/-- what hangs on a seed within a set -/
def hgP (sd wi r : Int64) : Prop := (∀ q, bfx r q = true → bfx wi q = true ∧ ∃ p, bfx sd p = true ∧ bfx wi p = true ∧ rch (bfx wi) A8 p q) ∧ (∀ p, bfx sd p = true → bfx wi p = true → bfx r p = true) ∧ ∀ a b, bfx r a = true → bfx wi b = true → A8 a b = true → bfx r b = true
def hgI (sd wi r : Int64) (i : Nat) : Prop := (∀ q, bfx r q = true → bfx wi q = true ∧ ∃ p, bfx sd p = true ∧ bfx wi p = true ∧ rch (bfx wi) A8 p q) ∧ (∀ p, bfx sd p = true → bfx wi p = true → bfx r p = true) ∧ i ≤ m_cnt r 64
theorem hg_0 {sd wi : Int64} : hgI sd wi (sd &&& wi) 0 := by
  refine ⟨fun q hq => ?_, fun p h1 h2 => by rw [bf_and, h1, h2]; rfl, Nat.zero_le _⟩
  rw [bf_and, Bool.and_eq_true] at hq
  exact ⟨hq.2, q, hq.1, hq.2, rch_r⟩
theorem hg_mem {wi r : Int64} {q : Nat} : bfx ((r ||| g_beside r) &&& wi) q = true ↔ bfx wi q = true ∧ (bfx r q = true ∨ ∃ a, bfx r a = true ∧ A8 a q = true) := by
  rw [bf_and, Bool.and_eq_true, bf_or, Bool.or_eq_true]
  constructor
  · rintro ⟨h1, h2⟩
    refine ⟨h2, ?_⟩
    rcases h1 with z | z
    · exact Or.inl z
    · exact Or.inr ((bes r (bx_lt z)).mp z)
  · rintro ⟨h1, h2⟩
    refine ⟨?_, h1⟩
    rcases h2 with z | z
    · exact Or.inl z
    · exact Or.inr ((bes r (bx_lt h1)).mpr z)
theorem hg_s {sd wi r : Int64} {i : Nat} (h : hgI sd wi r i) (hne : ¬ (r ||| g_beside r) &&& wi = r) : hgI sd wi ((r ||| g_beside r) &&& wi) (i + 1) := by
  have sub : ∀ j, bfx r j = true → bfx ((r ||| g_beside r) &&& wi) j = true := fun j hj => hg_mem.mpr ⟨(h.1 j hj).1, Or.inl hj⟩
  refine ⟨fun q hq => ?_, fun p h1 h2 => sub p (h.2.1 p h1 h2), ?_⟩
  · obtain ⟨h1, h2⟩ := hg_mem.mp hq
    refine ⟨h1, ?_⟩
    rcases h2 with z | ⟨a, z1, z2⟩
    · exact (h.1 q z).2
    · obtain ⟨-, p, k1, k2, k3⟩ := h.1 a z1
      exact ⟨p, k1, k2, rch_s k3 h1 z2⟩
  · have hex : ∃ k, k < 64 ∧ bfx r k = false ∧ bfx ((r ||| g_beside r) &&& wi) k = true := by
      apply Classical.byContradiction
      intro hno
      refine hne (bx_ext (fun j hj => ?_))
      cases q : bfx r j with
      | true => exact sub j q
      | false =>
        cases q2 : bfx ((r ||| g_beside r) &&& wi) j with
        | false => rfl
        | true => exact absurd ⟨j, hj, q, q2⟩ hno
    obtain ⟨k, hk, k1, k2⟩ := hex
    have := cn_lt sub k1 k2 64 (Nat.le_refl _) hk
    have := h.2.2
    omega
theorem hg_e {sd wi r : Int64} {i : Nat} (h : hgI sd wi r i) (e : (r ||| g_beside r) &&& wi = r) : hgP sd wi r := by
  refine ⟨h.1, h.2.1, fun a b ha hb hA => ?_⟩
  rw [← e]
  exact hg_mem.mpr ⟨hb, Or.inr ⟨a, ha, hA⟩⟩
theorem hg_f {sd wi r : Int64} {i : Nat} (h : hgI sd wi r i) (hi : i = 64) : hgP sd wi r := by
  refine ⟨h.1, h.2.1, fun a b ha hb hA => ?_⟩
  exact cn_f 64 (Nat.le_refl _) (by have := h.2.2; rw [hi] at this; exact this) b (bx_lt hb)
theorem rch_w {M M' : Nat → Bool} {A : Nat → Nat → Bool} {p q : Nat} (h : rch M A p q) (hM : ∀ x, M x = true → M' x = true) : rch M' A p q := fun C hp hc => h C hp (fun a b ha hb hA => hc a b ha (hM b hb) hA)
/-- the pieces: what is left of the set -/
def pcI (x v : Int64) (i : Nat) : Prop := (∀ q, bfx v q = true → bfx x q = true) ∧ scI (bfx x) A8 (fun q => bfx x q = true ∧ bfx v q = false) i
theorem pc_0 {x : Int64} : pcI x x 0 := ⟨fun _ h => h, sc_0 (fun q h => by rw [h.1] at h; exact absurd h.2 (by decide))⟩
theorem pc_n {x v : Int64} {i : Nat} (h : pcI x v i) (q : bfx v i = false) : pcI x v (i + 1) ∧ cFr (bfx x) A8 (i + 1) = cFr (bfx x) A8 i := by
  cases z : bfx x i with
  | true => exact ⟨⟨h.1, (sc_met h.2 ⟨z, q⟩).1⟩, (sc_met h.2 ⟨z, q⟩).2⟩
  | false => exact ⟨⟨h.1, (sc_out h.2 z).1⟩, (sc_out h.2 z).2⟩
theorem pc_y {x v r : Int64} {i : Nat} (hi : i < 64) (h : pcI x v i) (q : bfx v i = true) (hg : hgP ((1 : Int64) <<< ((nI i).toInt64 &&& 63)) v r) : pcI x (v &&& (r ^^^ (-1))) (i + 1) ∧ cFr (bfx x) A8 (i + 1) = cFr (bfx x) A8 i + 1 := by
  have sub : ∀ j, bfx (v &&& (r ^^^ (-1))) j = true → bfx v j = true := fun j hj => by
    rw [bf_andn, Bool.and_eq_true] at hj
    exact hj.1
  have mem : ∀ j, bfx x j = true ∧ bfx (v &&& (r ^^^ (-1))) j = false ↔ bfx x j = true ∧ (bfx v j = false ∨ bfx r j = true) := by
    intro j
    rw [bf_andn]
    cases bfx v j <;> cases bfx r j <;> simp
  have hri : bfx r i = true := hg.2.1 i (by rw [one_bf hi]; exact decide_eq_true rfl) q
  have k := sc_new (met' := fun j => bfx x j = true ∧ bfx (v &&& (r ^^^ (-1))) j = false) h.2 (h.1 i q) (fun z => by rw [q] at z; exact absurd z.2 (by decide)) (fun j hj => (mem j).mpr ⟨hj.1, Or.inl hj.2⟩) ((mem i).mpr ⟨h.1 i q, Or.inr hri⟩) (fun j hj => by
    obtain ⟨j1, j2⟩ := (mem j).mp hj
    rcases j2 with z | z
    · exact Or.inl ⟨j1, z⟩
    · obtain ⟨-, p, p1, p2, p3⟩ := hg.1 j z
      rw [one_bf hi, decide_eq_true_iff] at p1
      rw [← p1] at p3
      exact Or.inr (rch_w p3 h.1)) (fun a b ha hb hA => by
    obtain ⟨a1, a2⟩ := (mem a).mp ha
    refine (mem b).mpr ⟨hb, ?_⟩
    cases y : bfx v b with
    | false => exact Or.inl rfl
    | true =>
      rcases a2 with z | z
      · have w := h.2.1 a b ⟨a1, z⟩ hb hA
        exact absurd (y.symm.trans w.2) (by decide)
      · exact Or.inr (hg.2.2 a b z y hA))
  exact ⟨⟨fun j hj => h.1 j (sub j hj), k.1⟩, k.2⟩
def mOut (fl : Int64) (p : Nat) : Bool := rng p || !bfx fl (i10 p)
noncomputable def aPc (fl : Int64) : Nat := cFr (bfx fl) A8 64
def whP (fl : Int64) (S : List Int32) : Prop := S.any m_isG = false ∧ aPc fl = 1 ∧ cFr (mOut fl) A10 100 = 1
noncomputable def aWh (fl : Int64) (S : List Int32) : Bool := @decide (whP fl S) (Classical.propDecidable _)
theorem wh_t {fl : Int64} {S : List Int32} (h : whP fl S) : aWh fl S = true := by
  unfold aWh
  exact @decide_eq_true _ (Classical.propDecidable _) h
theorem wh_f {fl : Int64} {S : List Int32} (h : ¬ whP fl S) : aWh fl S = false := by
  unfold aWh
  exact @decide_eq_false _ (Classical.propDecidable _) h
theorem di_iff {fl r : Int64} (hg : hgP g_RIM (fl ^^^ (-1)) r) : cFr (mOut fl) A10 100 = 1 ↔ r = fl ^^^ (-1) := by
  have nb : ∀ j, j < 64 → bfx (fl ^^^ (-1)) j = !bfx fl j := fun j hj => bf_not fl hj
  have hm : ∀ f, f < 64 → mOut fl (e10 f) = bfx (fl ^^^ (-1)) f := fun f hf => by
    have l := e_lt hf
    rw [mOut, l.2.1, l.2.2, nb f hf]
    rfl
  rw [out_iff hm (fun p _ hr => by rw [mOut, hr]; rfl) (R := fun f => bfx r f = true) (fun f hf hrim hM => hg.2.1 f (by rw [mkRim ⟨f, hf⟩]; exact hrim) hM) (fun a b ha hb hA => hg.2.2 a b ha hb hA) (fun q hq => by
    obtain ⟨-, p, p1, p2, p3⟩ := hg.1 q hq
    have l := bx_lt p1
    rw [mkRim ⟨p, l⟩] at p1
    exact ⟨p, l, p1, p2, p3⟩)]
  constructor
  · intro h
    refine bx_ext (fun j hj => ?_)
    cases q : bfx (fl ^^^ (-1)) j with
    | true => exact h j hj q
    | false =>
      cases q2 : bfx r j with
      | false => rfl
      | true => rw [(hg.1 j q2).1] at q; exact absurd q (by decide)
  · intro h f hf hM
    rw [h]; exact hM
