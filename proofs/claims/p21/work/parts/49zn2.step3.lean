/-! ===== step by step ===== -/
def hVI (fl : Int64) (p : Int64 × Int64) (o : Nat → Int32) : Prop := ∀ r, r < 81 → hpt (bfx fl) r = true → (o r).toInt = hIn fl p.1 p.2 r
theorem hVI_of {fl : Int64} {p : Int64 × Int64} {far : Int32} {o : Nat → Int32} (h : hVal fl p.1 p.2 (zF0 fl) far o) : hVI fl p o := fun r hr hp => (h r hr).1 hp
noncomputable def zqB (fl : Int64) (p q : Int64 × Int64) (f : Nat) : Bool := @decide (zqP fl p q f) (Classical.propDecidable _)
theorem zqB_t {fl : Int64} {p q : Int64 × Int64} {f : Nat} (h : zqP fl p q f) : zqB fl p q f = true := @decide_eq_true _ (Classical.propDecidable _) h
theorem zqB_f {fl : Int64} {p q : Int64 × Int64} {f : Nat} (h : ¬ zqP fl p q f) : zqB fl p q f = false := @decide_eq_false _ (Classical.propDecidable _) h
theorem zqB_p {fl : Int64} {p q : Int64 × Int64} {f : Nat} (h : zqB fl p q f = true) : zqP fl p q f := @of_decide_eq_true _ (Classical.propDecidable _) h
def zlw (b : Nat → Bool) : Nat → Int32
  | 0 => -1
  | n + 1 => if zlw b n = -1 then (if b n = true then nI n else -1) else zlw b n
theorem zlw_n {b : Nat → Bool} : ∀ n, (∀ g, g < n → b g = false) → zlw b n = -1
  | 0, _ => rfl
  | n + 1, h => by
    show (if zlw b n = -1 then (if b n = true then nI n else -1) else zlw b n) = -1
    rw [if_pos (zlw_n n (fun g hg => h g (by omega))), if_neg (by rw [h n (by omega)]; decide)]
theorem zlw_y {b : Nat → Bool} {i : Nat} (hi64 : i < 64) (h : ∀ g, g < i → b g = false) (hb : b i = true) : ∀ n, i < n → zlw b n = nI i
  | 0, hn => absurd hn (Nat.not_lt_zero i)
  | n + 1, hn => by
    show (if zlw b n = -1 then (if b n = true then nI n else -1) else zlw b n) = nI i
    by_cases e : n = i
    · subst e
      rw [if_pos (zlw_n n h), if_pos hb]
    · rw [zlw_y hi64 h hb n (by omega), if_neg (nI_m1 ⟨i, hi64⟩)]
theorem zlw_ex {b : Nat → Bool} : ∀ n, n ≤ 64 → (∃ f, f < n ∧ b f = true) → ∃ f, f < n ∧ b f = true ∧ (∀ g, g < f → b g = false)
  | 0, _, ⟨f, h, _⟩ => absurd h (Nat.not_lt_zero f)
  | n + 1, hn, h => by
    by_cases z : ∃ f, f < n ∧ b f = true
    · obtain ⟨f, f1, f2, f3⟩ := zlw_ex n (by omega) z
      exact ⟨f, by omega, f2, f3⟩
    · obtain ⟨f, f1, f2⟩ := h
      have e : f = n := by
        apply Classical.byContradiction
        intro y
        exact z ⟨f, by omega, f2⟩
      subst e
      refine ⟨f, f1, f2, fun g hg => ?_⟩
      cases y : b g with
      | false => rfl
      | true => exact absurd ⟨g, hg, y⟩ z
theorem zlw_64 {fl : Int64} {p q : Int64 × Int64} {i : Nat} (h : zqB fl p q i = true) : i < 55 := ((zhw_c (zqB_p h).1).1).2
noncomputable def zch (fl : Int64) (q : Int64 × Int64) : Nat → Int64 × Int64 → Int64 × Int64
  | 0, p => p
  | k + 1, p => zfp (zlw (zqB fl (zch fl q k p) q) 55).toNatClampNeg (zch fl q k p)
/-! as the arrays are compared -/
theorem mid_e : ∀ f : Fin 64, (m_midst (nI f.val)).toNatClampNeg = hTL f.val + 10 := by decide +kernel
theorem amd_e : ∀ f : Fin 64, ((9 : Int32) * (nI f.val / 8 + 1) + (nI f.val - nI f.val / 8 * 8 + 1)).toNatClampNeg = hTL f.val + 10 := by decide +kernel
section CMP
variable {fl : Int64} {p q : Int64 × Int64} {o t : Nat → Int32} {f : Nat}
theorem zq_pt (ha : LY (bfx fl) (bfx p.1) (bfx p.2)) (h : ¬ zhw p.1 p.2 f = 0) : f < 55 ∧ hTL f + 10 < 81 ∧ hpt (bfx fl) (hTL f + 10) = true := by
  have c := (zhw_c h).1
  obtain ⟨u, -, -, -, -, -, o0, -⟩ := zl_all ha c.2 h
  have t := hTL_lt (show f < 64 by omega)
  exact ⟨c.2, by omega, (mp_pts (show f < 64 by omega) o0 ha).2.2⟩
theorem cm_lt (ha : LY (bfx fl) (bfx p.1) (bfx p.2)) (ho : hVI fl p o) (ht : hVI fl q t) (h : ¬ zhw p.1 p.2 f = 0) : (o (hTL f + 10) < t (hTL f + 10) ↔ hIn fl p.1 p.2 (hTL f + 10) < hIn fl q.1 q.2 (hTL f + 10)) ∧ (t (hTL f + 10) < o (hTL f + 10) ↔ hIn fl q.1 q.2 (hTL f + 10) < hIn fl p.1 p.2 (hTL f + 10)) := by
  obtain ⟨-, l, pt⟩ := zq_pt ha h
  rw [Int32.lt_iff_toInt_lt, Int32.lt_iff_toInt_lt, ho _ l pt, ht _ l pt]
  exact ⟨Iff.rfl, Iff.rfl⟩
theorem nr_1 {r : Int32} (e : r = zhw p.1 p.2 f) (h : r = 0) : zqB fl p q f = false := zqB_f (fun z => z.1 (e.symm.trans h))
theorem nr_d {r : Int32} (ha : LY (bfx fl) (bfx p.1) (bfx p.2)) (ho : hVI fl p o) (ht : hVI fl q t) (e : r = zhw p.1 p.2 f) (h : ¬ r = 0) (hd : m_isDown (nI f) r = true) : (zqB fl p q f = true ↔ t (hTL f + 10) < o (hTL f + 10)) := by
  subst e
  rw [(cm_lt ha ho ht h).2]
  constructor
  · intro z
    have k := (zqB_p z).2
    rw [if_pos hd] at k
    exact k
  · intro z
    exact zqB_t ⟨h, by rw [if_pos hd]; exact z⟩
theorem nr_u {r : Int32} (ha : LY (bfx fl) (bfx p.1) (bfx p.2)) (ho : hVI fl p o) (ht : hVI fl q t) (e : r = zhw p.1 p.2 f) (h : ¬ r = 0) (hd : m_isDown (nI f) r = false) : (zqB fl p q f = true ↔ o (hTL f + 10) < t (hTL f + 10)) := by
  subst e
  rw [(cm_lt ha ho ht h).1]
  constructor
  · intro z
    have k := (zqB_p z).2
    rw [if_neg (by rw [hd]; decide)] at k
    exact k
  · intro z
    exact zqB_t ⟨h, by rw [if_neg (by rw [hd]; decide)]; exact z⟩
theorem bq_f {b : Bool} {P : Prop} (h : b = true ↔ P) (n : ¬ P) : b = false := by
  cases b with
  | false => rfl
  | true => exact absurd (h.mp rfl) n
end CMP
/-! the sum, as it is reckoned -/
theorem apS_I {o t : Nat → Int32} {d : Nat → Int} : ∀ n, n ≤ 81 → (∀ r, r < n → (o r).toInt - (t r).toInt = d r ∧ -1000 ≤ d r ∧ d r ≤ 1000) → (apS o t n).toInt = suI d n ∧ suI d n ≤ 1000 * n
  | 0, _, _ => ⟨rfl, by show (0 : Int) ≤ 1000 * ((0 : Nat) : Int); decide⟩
  | n + 1, hn, h => by
    obtain ⟨ih1, ih2⟩ := apS_I n (by omega) (fun r hr => h r (by omega))
    obtain ⟨e, b1, b2⟩ := h n (by omega)
    have nn := suI_nn d n
    have hd : (o n - t n).toInt = d n := by
      rw [Int32.toInt_sub, e]
      exact Int.bmod_eq_of_le (by omega) (by omega)
    have ha : (iab (o n - t n)).toInt = abI (d n) := by
      have e0 : (0 : Int32).toInt = 0 := rfl
      unfold iab abI
      by_cases q : 0 ≤ o n - t n
      · rw [if_pos q]
        rw [Int32.le_iff_toInt_le, e0, hd] at q
        rw [if_pos q, hd]
      · rw [if_neg q]
        rw [Int32.le_iff_toInt_le, e0, hd] at q
        rw [if_neg q, Int32.toInt_sub, hd, e0, Int.bmod_eq_of_le (by omega) (by omega)]
        omega
    have hb : abI (d n) ≤ 1000 := by unfold abI; split <;> omega
    have hn2 := abI_nn (d n)
    show (apS o t n + iab (o n - t n)).toInt = suI d n + abI (d n) ∧ suI d n + abI (d n) ≤ 1000 * ((n + 1 : Nat) : Int)
    refine ⟨?_, by omega⟩
    rw [Int32.toInt_add, ih1, ha]
    exact Int.bmod_eq_of_le (by omega) (by omega)
theorem ap_I {fl : Int64} {p q : Int64 × Int64} {far : Int32} {o t : Nat → Int32} (ho : hVal fl p.1 p.2 (zF0 fl) far o) (ht : hVal fl q.1 q.2 (zF0 fl) far t) (bo : ∀ r, r < 81 → hpt (bfx fl) r = true → -100 ≤ (o r).toInt ∧ (o r).toInt ≤ 100) (bt : ∀ r, r < 81 → hpt (bfx fl) r = true → -100 ≤ (t r).toInt ∧ (t r).toInt ≤ 100) : (apS o t 81 / 4).toInt = suI (dfI fl p q) 81 / 4 ∧ suI (dfI fl p q) 81 ≤ 81000 := by
  obtain ⟨e, l⟩ := apS_I (o := o) (t := t) (d := dfI fl p q) 81 (Nat.le_refl _) (fun r hr => by
    unfold dfI
    by_cases y : hpt (bfx fl) r = true
    · rw [if_pos y]
      have a := hVI_of ho r hr y
      have b := hVI_of ht r hr y
      have c := bo r hr y
      have d := bt r hr y
      exact ⟨by omega, by omega, by omega⟩
    · have y' : hpt (bfx fl) r = false := by
        cases w : hpt (bfx fl) r with
        | false => rfl
        | true => exact absurd w y
      rw [if_neg y, (ho r hr).2 y', (ht r hr).2 y']
      exact ⟨by omega, by decide, by decide⟩)
  have nn := suI_nn (dfI fl p q) 81
  have e4 : (4 : Int32).toInt = 4 := rfl
  refine ⟨?_, by omega⟩
  rw [Int32.toInt_div, e, e4, Int.tdiv_eq_ediv_of_nonneg nn]
  exact Int.bmod_eq_of_le (by omega) (by omega)
/-- what holds at each step -/
def SPk (fl : Int64) (p0 q : Int64 × Int64) (k : Nat) (p : Int64 × Int64) (o t : Nat → Int32) : Prop := p = zch fl q k p0 ∧ LY (bfx fl) (bfx p.1) (bfx p.2) ∧ LY (bfx fl) (bfx q.1) (bfx q.2) ∧ hVI fl p o ∧ hVI fl q t ∧ suI (dfI fl p q) 81 + 4 * k = suI (dfI fl p0 q) 81
section SPK
variable {fl : Int64} {p0 q p : Int64 × Int64} {k : Nat} {o t : Nat → Int32}
theorem sp_0 (ha : LY (bfx fl) (bfx p0.1) (bfx p0.2)) (hb : LY (bfx fl) (bfx q.1) (bfx q.2)) (ho : hVI fl p0 o) (ht : hVI fl q t) : SPk fl p0 q 0 p0 o t := ⟨rfl, ha, hb, ho, ht, by omega⟩
theorem sp_f (hw : cFr (mOut fl) A10 100 = 1 ∧ aPc fl = 1) (h : SPk fl p0 q k p o t) (hk : 4 * ((k : Int) + 1) ≤ suI (dfI fl p0 q) 81) : ∃ f, f < 55 ∧ zlw (zqB fl p q) 55 = nI f ∧ zqP fl p q f := by
  obtain ⟨-, ha, hb, -, -, e⟩ := h
  obtain ⟨f, f1, f2⟩ := st_ex hw ha hb (by omega)
  obtain ⟨g, g1, g2, g3⟩ := zlw_ex (b := zqB fl p q) 55 (by decide) ⟨f, f1, zqB_t f2⟩
  exact ⟨g, g1, zlw_y (by omega) g3 g2 55 g1, zqB_p g2⟩
theorem sp_s {f : Nat} {v : Int32} (hw : cFr (mOut fl) A10 100 = 1 ∧ aPc fl = 1) (h : SPk fl p0 q k p o t) (hf : f < 55) (e : zlw (zqB fl p q) 55 = nI f) (hz : zqP fl p q f) (hv : v.toInt = zlt p f) : SPk fl p0 q (k + 1) (zfp f p) (upd o (hTL f + 10) (o (hTL f + 10) + v)) t := by
  obtain ⟨e0, ha, hb, ho, ht, es⟩ := h
  have ha' : LY (bfx fl) (bfx (zfp f p).1) (bfx (zfp f p).2) := zx_LY ha hz.1
  have s4 := st_4 hw ha hb hf hz
  refine ⟨?_, ha', hb, fun r hr hp => ?_, ht, by omega⟩
  · show zfp f p = zfp (zlw (zqB fl (zch fl q k p0) q) 55).toNatClampNeg (zch fl q k p0)
    rw [← e0, e, nI_clamp (by omega)]
  · rw [hIn_fp hw ha hf hz.1 hr hp]
    by_cases y : r = hTL f + 10
    · subst y
      rw [pk_us, if_pos rfl]
      have a := ho _ hr hp
      have b := ht _ hr hp
      have r1 := i32_rng (o (hTL f + 10))
      have r2 := i32_rng (t (hTL f + 10))
      obtain ⟨k4, hk4⟩ := h_mod hw ha hb hr hp
      have g := hz.2
      have zv : zlt p f = -4 ∧ hIn fl q.1 q.2 (hTL f + 10) < hIn fl p.1 p.2 (hTL f + 10) ∨ zlt p f = 4 ∧ hIn fl p.1 p.2 (hTL f + 10) < hIn fl q.1 q.2 (hTL f + 10) := by
        unfold zlt
        by_cases y : m_isDown (nI f) (zhw p.1 p.2 f) = true
        · rw [if_pos y] at g ⊢; exact Or.inl ⟨rfl, g⟩
        · rw [if_neg y] at g ⊢; exact Or.inr ⟨rfl, g⟩
      rw [Int32.toInt_add, hv, a]
      exact Int.bmod_eq_of_le (by omega) (by omega)
    · rw [pk_un y, if_neg y, ho r hr hp]
      omega
end SPK
noncomputable def aStp (fl : Int64) (S : List Int32) (a b i : Int32) : Int32 := if aAg fl S a b = 0 then (@ite Int32 (0 ≤ i.toInt ∧ 4 * (i.toInt + 1) ≤ suI (dfI fl (zLy fl a.toNatClampNeg) (zLy fl b.toNatClampNeg)) 81) (Classical.propDecidable _) (zlw (zqB fl (zch fl (zLy fl b.toNatClampNeg) i.toNatClampNeg (zLy fl a.toNatClampNeg)) (zLy fl b.toNatClampNeg)) 55) (-100006)) else aAg fl S a b
theorem as_no {fl : Int64} {S : List Int32} {a b i x : Int32} (h : x = aAg fl S a b) (h0 : ¬ x = 0) : x = aStp fl S a b i := by rw [aStp, ← h, if_neg h0]
theorem as_out {fl : Int64} {S : List Int32} {a b i : Int32} (h0 : aAg fl S a b = 0) (h : ¬ (0 ≤ i.toInt ∧ 4 * (i.toInt + 1) ≤ suI (dfI fl (zLy fl a.toNatClampNeg) (zLy fl b.toNatClampNeg)) 81)) : (-100006 : Int32) = aStp fl S a b i := by rw [aStp, if_pos h0, if_neg h]
theorem as_in {fl : Int64} {S : List Int32} {a b i : Int32} (h0 : aAg fl S a b = 0) (h : 0 ≤ i.toInt ∧ 4 * (i.toInt + 1) ≤ suI (dfI fl (zLy fl a.toNatClampNeg) (zLy fl b.toNatClampNeg)) 81) : zlw (zqB fl (zch fl (zLy fl b.toNatClampNeg) i.toNatClampNeg (zLy fl a.toNatClampNeg)) (zLy fl b.toNatClampNeg)) 55 = aStp fl S a b i := by rw [aStp, if_pos h0, if_pos h]
/-- whether i is of a step, as both ask for it -/
theorem rg_1 {x A : Int32} {s : Int} (hA : A.toInt = s / 4) (hs : 0 ≤ s) (hs2 : s ≤ 81000) : m_within x 0 (A - 1) = true ↔ (0 ≤ x.toInt ∧ 4 * (x.toInt + 1) ≤ s) := by
  have e0 : (0 : Int32).toInt = 0 := rfl
  have e1 : (1 : Int32).toInt = 1 := rfl
  rw [within_iff, e0, Int32.toInt_sub, hA, e1, Int.bmod_eq_of_le (by omega) (by omega)]
  omega
theorem rg_2 {x A : Int32} {s : Int} (hA : A.toInt = s / 4) (hs : 0 ≤ s) (hs2 : s ≤ 81000) : (¬ x < 0 ∧ x < A) ↔ (0 ≤ x.toInt ∧ 4 * (x.toInt + 1) ≤ s) := by
  have e0 : (0 : Int32).toInt = 0 := rfl
  rw [Int32.lt_iff_toInt_lt, Int32.lt_iff_toInt_lt, hA, e0]
  omega
theorem rg_n {x : Int32} {s : Int} (hs2 : s ≤ 81000) (h : 0 ≤ x.toInt ∧ 4 * (x.toInt + 1) ≤ s) : ∃ n, n < 81000 ∧ x = nI n ∧ 4 * ((n : Int) + 1) ≤ s := by
  obtain ⟨j, hj, ej⟩ := nI_ofn (x := x) (by rw [Int32.lt_iff_toInt_lt]; have e0 : (0 : Int32).toInt = 0 := rfl; omega)
  exact ⟨j, by omega, hj, by omega⟩
theorem sp_0e {fl : Int64} {p0 q p : Int64 × Int64} {o t : Nat → Int32} (e : p = p0) (ha : LY (bfx fl) (bfx p0.1) (bfx p0.2)) (hb : LY (bfx fl) (bfx q.1) (bfx q.2)) (ho : hVI fl p0 o) (ht : hVI fl q t) : SPk fl p0 q 0 p o t := by
  subst e
  exact sp_0 ha hb ho ht
theorem nb_s {b : Nat → Bool} {i : Nat} (h : ∀ g, g < i → b g = false) (hb : b i = false) : ∀ g, g < i + 1 → b g = false := fun g hg => by
  by_cases e : g = i
  · rw [e]; exact hb
  · exact h g (by omega)
theorem k4 {k nn : Nat} {s : Int} (hkn : k ≤ nn) (h : 4 * ((nn : Int) + 1) ≤ s) : 4 * ((k : Int) + 1) ≤ s := by omega
section NRR
variable {fl : Int64} {p q : Int64 × Int64} {o t : Nat → Int32} {f : Nat} {r : Int32}
theorem nd_f (hf : f < 64) (ha : LY (bfx fl) (bfx p.1) (bfx p.2)) (ho : hVI fl p o) (ht : hVI fl q t) (e : r = zhw p.1 p.2 f) (h : ¬ r = 0) (hd : m_isDown (nI f) r = true) (hc : o (m_midst (nI f)).toNatClampNeg ≤ t (m_midst (nI f)).toNatClampNeg) : zqB fl p q f = false := by
  rw [mid_e ⟨f, hf⟩] at hc
  exact bq_f (nr_d ha ho ht e h hd) (i32_nlt hc)
theorem nd_t (hf : f < 64) (ha : LY (bfx fl) (bfx p.1) (bfx p.2)) (ho : hVI fl p o) (ht : hVI fl q t) (e : r = zhw p.1 p.2 f) (h : ¬ r = 0) (hd : m_isDown (nI f) r = true) (hc : ¬ o (m_midst (nI f)).toNatClampNeg ≤ t (m_midst (nI f)).toNatClampNeg) : zqB fl p q f = true := by
  rw [mid_e ⟨f, hf⟩] at hc
  exact (nr_d ha ho ht e h hd).mpr (i32_lt hc)
theorem nu_f (hf : f < 64) (ha : LY (bfx fl) (bfx p.1) (bfx p.2)) (ho : hVI fl p o) (ht : hVI fl q t) (e : r = zhw p.1 p.2 f) (h : ¬ r = 0) (hd : m_isDown (nI f) r = false) (hc : t (m_midst (nI f)).toNatClampNeg ≤ o (m_midst (nI f)).toNatClampNeg) : zqB fl p q f = false := by
  rw [mid_e ⟨f, hf⟩] at hc
  exact bq_f (nr_u ha ho ht e h hd) (i32_nlt hc)
theorem nu_t (hf : f < 64) (ha : LY (bfx fl) (bfx p.1) (bfx p.2)) (ho : hVI fl p o) (ht : hVI fl q t) (e : r = zhw p.1 p.2 f) (h : ¬ r = 0) (hd : m_isDown (nI f) r = false) (hc : ¬ t (m_midst (nI f)).toNatClampNeg ≤ o (m_midst (nI f)).toNatClampNeg) : zqB fl p q f = true := by
  rw [mid_e ⟨f, hf⟩] at hc
  exact (nr_u ha ho ht e h hd).mpr (i32_lt hc)
theorem zlt_d (e : r = zhw p.1 p.2 f) (hd : m_isDown (nI f) r = true) : (-4 : Int32).toInt = zlt p f := by
  unfold zlt
  rw [← e, if_pos hd]
  rfl
theorem zlt_u (e : r = zhw p.1 p.2 f) (hd : m_isDown (nI f) r = false) : (4 : Int32).toInt = zlt p f := by
  unfold zlt
  rw [← e, if_neg (by rw [hd]; decide)]
  rfl
theorem zlf_I (h : ¬ zhw p.1 p.2 f = 0) : (zlf p.1 p.2 f).toInt = zlt p f := by
  unfold zlf zlt
  rw [if_neg h]
  split <;> rfl
/-! the class asks by the lift -/
theorem lt_y1 (hf : f < 64) (ha : LY (bfx fl) (bfx p.1) (bfx p.2)) (ho : hVI fl p o) (ht : hVI fl q t) (h : ¬ zlf p.1 p.2 f ≤ 0) (hc : o ((9 : Int32) * (nI f / 8 + 1) + (nI f - nI f / 8 * 8 + 1)).toNatClampNeg < t ((9 : Int32) * (nI f / 8 + 1) + (nI f - nI f / 8 * 8 + 1)).toNatClampNeg) : zqB fl p q f = true := by
  rw [amd_e ⟨f, hf⟩] at hc
  rcases zu_3 p.1 p.2 f with ⟨a, b⟩ | ⟨a, b, c⟩ | ⟨a, b, c⟩
  · rw [a] at h; exact absurd (by decide) h
  · rw [a] at h; exact absurd (by decide) h
  · exact (nr_u ha ho ht rfl b c).mpr hc
theorem lt_n1 (hf : f < 64) (ha : LY (bfx fl) (bfx p.1) (bfx p.2)) (ho : hVI fl p o) (ht : hVI fl q t) (h : ¬ zlf p.1 p.2 f ≤ 0) (hc : ¬ o ((9 : Int32) * (nI f / 8 + 1) + (nI f - nI f / 8 * 8 + 1)).toNatClampNeg < t ((9 : Int32) * (nI f / 8 + 1) + (nI f - nI f / 8 * 8 + 1)).toNatClampNeg) : zqB fl p q f = false := by
  rw [amd_e ⟨f, hf⟩] at hc
  rcases zu_3 p.1 p.2 f with ⟨a, b⟩ | ⟨a, b, c⟩ | ⟨a, b, c⟩
  · rw [a] at h; exact absurd (by decide) h
  · rw [a] at h; exact absurd (by decide) h
  · exact bq_f (nr_u ha ho ht rfl b c) hc
theorem lt_y2 (hf : f < 64) (ha : LY (bfx fl) (bfx p.1) (bfx p.2)) (ho : hVI fl p o) (ht : hVI fl q t) (h : ¬ (0 : Int32) ≤ zlf p.1 p.2 f) (hc : ¬ o ((9 : Int32) * (nI f / 8 + 1) + (nI f - nI f / 8 * 8 + 1)).toNatClampNeg ≤ t ((9 : Int32) * (nI f / 8 + 1) + (nI f - nI f / 8 * 8 + 1)).toNatClampNeg) : zqB fl p q f = true := by
  rw [amd_e ⟨f, hf⟩] at hc
  rcases zu_3 p.1 p.2 f with ⟨a, b⟩ | ⟨a, b, c⟩ | ⟨a, b, c⟩
  · rw [a] at h; exact absurd (by decide) h
  · exact (nr_d ha ho ht rfl b c).mpr (i32_lt hc)
  · rw [a] at h; exact absurd (by decide) h
theorem lt_n3 (hf : f < 64) (ha : LY (bfx fl) (bfx p.1) (bfx p.2)) (ho : hVI fl p o) (ht : hVI fl q t) (h : ¬ (0 : Int32) ≤ zlf p.1 p.2 f) (hc : o ((9 : Int32) * (nI f / 8 + 1) + (nI f - nI f / 8 * 8 + 1)).toNatClampNeg ≤ t ((9 : Int32) * (nI f / 8 + 1) + (nI f - nI f / 8 * 8 + 1)).toNatClampNeg) : zqB fl p q f = false := by
  rw [amd_e ⟨f, hf⟩] at hc
  rcases zu_3 p.1 p.2 f with ⟨a, b⟩ | ⟨a, b, c⟩ | ⟨a, b, c⟩
  · rw [a] at h; exact absurd (by decide) h
  · exact bq_f (nr_d ha ho ht rfl b c) (i32_nlt hc)
  · rw [a] at h; exact absurd (by decide) h
theorem lt_n2 (h : zlf p.1 p.2 f ≤ 0) (h2 : (0 : Int32) ≤ zlf p.1 p.2 f) : zqB fl p q f = false := by
  rcases zu_3 p.1 p.2 f with ⟨a, b⟩ | ⟨a, b, c⟩ | ⟨a, b, c⟩
  · exact zqB_f (fun z => z.1 b)
  · rw [a] at h2; exact absurd h2 (by decide)
  · rw [a] at h; exact absurd h (by decide)
theorem lt_x {x : Int32} (h : ¬ x ≤ 0) (h2 : ¬ (0 : Int32) ≤ x) : False := h2 (Int32.le_of_lt (i32_lt h))
end NRR
theorem as_fin {J0 fl : Int64} {S : List Int32} {a b x v : Int32} {k nn : Nat} (eJ : J0 = fl) (h0 : aAg fl S a b = 0) (ex : x = nI nn) (hnn : nn < 81000) (h4 : 4 * ((nn : Int) + 1) ≤ suI (dfI J0 (zLy J0 a.toNatClampNeg) (zLy J0 b.toNatClampNeg)) 81) (hk : k ≤ nn + 1) (q : nI nn < nI k) (hv : k = 0 ∨ v = zlw (zqB J0 (zch J0 (zLy J0 b.toNatClampNeg) (k - 1) (zLy J0 a.toNatClampNeg)) (zLy J0 b.toNatClampNeg)) 55) : v = aStp fl S a b x := by
  subst eJ
  rw [nI_ltI (by omega) (by omega)] at q
  have e : k = nn + 1 := by omega
  subst e
  have ex2 : x.toInt = nn := by rw [ex]; exact nI_toInt (by omega)
  rw [← as_in h0 ⟨by omega, by rw [ex2]; exact h4⟩]
  rcases hv with z | z
  · exact absurd z (Nat.succ_ne_zero nn)
  · rw [z, Nat.add_sub_cancel, ex, nI_clamp (by omega)]
theorem as_outJ {J0 fl : Int64} {S : List Int32} {a b i : Int32} (eJ : J0 = fl) (h0 : aAg fl S a b = 0) (h : ¬ (0 ≤ i.toInt ∧ 4 * (i.toInt + 1) ≤ suI (dfI J0 (zLy J0 a.toNatClampNeg) (zLy J0 b.toNatClampNeg)) 81)) : (-100006 : Int32) = aStp fl S a b i := by
  subst eJ
  exact as_out h0 h
theorem as_outC {fl : Int64} {S : List Int32} {a b i : Int32} {na nb : Nat} (ea : a = nI na) (eb : b = nI nb) (za : zIn (bfx fl) na) (zb : zIn (bfx fl) nb) (h0 : aAg fl S a b = 0) (h : ¬ (0 ≤ i.toInt ∧ 4 * (i.toInt + 1) ≤ suI (dfI fl (zLy fl na) (zLy fl nb)) 81)) : (-100006 : Int32) = aStp fl S a b i := by
  subst ea
  subst eb
  refine as_out h0 ?_
  rw [nI_clamp (zIn_lt za), nI_clamp (zIn_lt zb)]
  exact h
theorem kn_le {k nn : Nat} (hnn : nn < 81000) (hk : k ≤ nn + 1) (q : ¬ nI nn < nI k) : k ≤ nn := by
  rw [nI_ltI (by omega) (by omega)] at q
  omega
theorem bd_J {J6 fl : Int64} {w : Nat → Int32} (e : J6 = fl) (h : ∀ r, r < 81 → hpt (bfx J6) r = true → -100 ≤ (w r).toInt ∧ (w r).toInt ≤ 100) : ∀ r, r < 81 → hpt (bfx fl) r = true → -100 ≤ (w r).toInt ∧ (w r).toInt ≤ 100 := by
  subst e
  exact h
theorem st_e {p : Int64 × Int64} {w1 w2 : Int64} (h1 : w1 = p.1 &&& ((0 : Int64) ^^^ (-1))) (h2 : w2 = p.2 &&& ((0 : Int64) ^^^ (-1))) : (w1, w2) = p := by
  rw [h1, h2, z_and0, z_and0]
theorem as_finC {fl : Int64} {S : List Int32} {a b x : Int32} {na nb nn k f : Nat} {p : Int64 × Int64} {o t : Nat → Int32} (ea : a = nI na) (eb : b = nI nb) (za : zIn (bfx fl) na) (zb : zIn (bfx fl) nb) (h0 : aAg fl S a b = 0) (ex : x = nI nn) (hnn : nn < 81000) (h4 : 4 * ((nn : Int) + 1) ≤ suI (dfI fl (zLy fl na) (zLy fl nb)) 81) (hk : k ≤ nn) (q : nI nn ≤ nI k) (hsp : SPk fl (zLy fl na) (zLy fl nb) k p o t) (ef : zlw (zqB fl p (zLy fl nb)) 55 = nI f) : nI f = aStp fl S a b x := by
  subst ea
  subst eb
  rw [nI_leI (by omega) (by omega)] at q
  have e : k = nn := by omega
  subst e
  have ex2 : x.toInt = k := by rw [ex]; exact nI_toInt (by omega)
  rw [← as_in h0 ⟨by omega, by rw [ex2, nI_clamp (zIn_lt za), nI_clamp (zIn_lt zb)]; exact h4⟩, nI_clamp (zIn_lt za), nI_clamp (zIn_lt zb), ex, nI_clamp (by omega), ← hsp.1, ef]
theorem kn_lt {k nn : Nat} (hnn : nn < 81000) (hk : k ≤ nn) (q : ¬ nI nn ≤ nI k) : k < nn := by
  rw [nI_leI (by omega) (by omega)] at q
  omega
