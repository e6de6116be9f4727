/-- of a turn's two layings: what lies amid, and which sides go where -/
theorem fin_min {S : Nat → Prop} {v : Nat → Int} : ∀ n, (∃ p, p < n ∧ S p) → ∃ p, p < n ∧ S p ∧ ∀ q, q < n → S q → v p ≤ v q
  | 0, ⟨p, h, _⟩ => absurd h (Nat.not_lt_zero p)
  | n + 1, h => by
    by_cases z : ∃ p, p < n ∧ S p
    · obtain ⟨p, p1, p2, p3⟩ := fin_min (v := v) n z
      by_cases k : S n ∧ v n < v p
      · refine ⟨n, by omega, k.1, fun q hq hs => ?_⟩
        by_cases e : q = n
        · rw [e]; exact Int.le_refl _
        · have := p3 q (by omega) hs; omega
      · refine ⟨p, by omega, p2, fun q hq hs => ?_⟩
        by_cases e : q = n
        · rw [e] at hs ⊢
          have : ¬ v n < v p := fun y => k ⟨hs, y⟩
          omega
        · exact p3 q (by omega) hs
    · obtain ⟨p, p1, p2⟩ := h
      have e : p = n := by
        apply Classical.byContradiction
        intro y
        exact z ⟨p, by omega, p2⟩
      subst e
      refine ⟨p, by omega, p2, fun q hq hs => ?_⟩
      by_cases y : q = p
      · rw [y]; exact Int.le_refl _
      · exact absurd ⟨q, by omega, hs⟩ z
section AMD
variable {fl al ac : Int64} {f : Nat}
theorem am_e (hw : cFr (mOut fl) A10 100 = 1 ∧ aPc fl = 1) (ha : LY (bfx fl) (bfx al) (bfx ac)) (h7 : f % 8 < 7) (hf : f < 55) (o0 : bfx fl f = true) (o1 : bfx fl (f + 1) = true) (o8 : bfx fl (f + 8) = true) : hIn fl al ac (hTL f + 1) - hIn fl al ac (hTL f + 10) = - hsg (f % 8 + f / 8) * hk3 (bfx al f) ∧ hIn fl al ac (hTL f + 9) - hIn fl al ac (hTL f + 10) = hsg (f % 8 + f / 8) * hk3 (bfx ac f) ∧ hIn fl al ac (hTL f + 11) - hIn fl al ac (hTL f + 10) = hsg (f % 8 + f / 8) * hk3 (bfx ac (f + 1)) ∧ hIn fl al ac (hTL f + 19) - hIn fl al ac (hTL f + 10) = - hsg (f % 8 + f / 8) * hk3 (bfx al (f + 8)) := by
  have H := zH_t hw.1 ha
  obtain ⟨-, a2, a3, -⟩ := hfe H ha (show f < 64 by omega) o0
  obtain ⟨-, -, b3, -⟩ := hfe H ha (show f + 1 < 64 by omega) o1
  obtain ⟨-, c2, -, -⟩ := hfe H ha (show f + 8 < 64 by omega) o8
  rw [show hTL (f + 1) + 10 = hTL f + 11 by unfold hTL; omega, show hTL (f + 1) + 9 = hTL f + 10 by unfold hTL; omega, show (f + 1) % 8 + (f + 1) / 8 = f % 8 + f / 8 + 1 by omega, hsg_s, Int.neg_neg] at b3
  rw [show hTL (f + 8) + 10 = hTL f + 19 by unfold hTL; omega, show hTL (f + 8) + 1 = hTL f + 10 by unfold hTL; omega, show (f + 8) % 8 + (f + 8) / 8 = f % 8 + f / 8 + 1 by omega, hsg_s] at c2
  unfold hIn
  rw [Int.neg_mul] at a3 c2 ⊢
  rw [Int.neg_mul]
  refine ⟨by omega, by omega, by omega, by omega⟩
end AMD
theorem mn_e {ap aq bp bq s : Int} {ca cb : Bool} (hs : s = -1) (ha : aq - ap = s * hk3 ca) (hb : bq - bp = s * hk3 cb) (h4 : ap + 4 ≤ bp) (hm : aq < ap → ¬ aq < bq) : ca = true := by
  subst hs
  cases ca with
  | true => rfl
  | false =>
    rw [show hk3 false = 1 from rfl] at ha
    have := hm (by omega)
    cases cb with
    | true => rw [show hk3 true = -3 from rfl] at hb; omega
    | false => rw [show hk3 false = 1 from rfl] at hb; omega
theorem mxm_e {ap aq bp bq s : Int} {ca cb : Bool} (hs : s = 1) (ha : aq - ap = s * hk3 ca) (hb : bq - bp = s * hk3 cb) (h4 : bp + 4 ≤ ap) (hm : ap < aq → ¬ bq < aq) : ca = true := by
  subst hs
  cases ca with
  | true => rfl
  | false =>
    rw [show hk3 false = 1 from rfl] at ha
    have := hm (by omega)
    cases cb with
    | true => rw [show hk3 true = -3 from rfl] at hb; omega
    | false => rw [show hk3 false = 1 from rfl] at hb; omega
/-- a turn at f would lead from p nearer to q -/
def zqP (fl : Int64) (p q : Int64 × Int64) (f : Nat) : Prop := ¬ zhw p.1 p.2 f = 0 ∧ (if m_isDown (nI f) (zhw p.1 p.2 f) = true then hIn fl q.1 q.2 (hTL f + 10) < hIn fl p.1 p.2 (hTL f + 10) else hIn fl p.1 p.2 (hTL f + 10) < hIn fl q.1 q.2 (hTL f + 10))
theorem dn_s {f : Nat} : (hsg (f % 8 + f / 8) = 1 ∧ dN f = false) ∨ (hsg (f % 8 + f / 8) = -1 ∧ dN f = true) := by
  unfold hsg dN
  by_cases q : (f % 8 + f / 8) % 2 = 1
  · rw [if_pos q, decide_eq_false (by omega)]; exact Or.inl ⟨rfl, rfl⟩
  · rw [if_neg q, decide_eq_true (by omega)]; exact Or.inr ⟨rfl, rfl⟩
theorem zhw_1 {al ac : Int64} {f : Nat} (h7 : f % 8 < 7) (hf : f < 55) (a1 : bfx al f = true) (a2 : bfx al (f + 8) = true) : zhw al ac f = 1 := by
  unfold zhw
  rw [if_pos ⟨h7, hf⟩, if_pos ⟨a1, a2⟩]
theorem zhw_2 {al ac : Int64} {f : Nat} (h7 : f % 8 < 7) (hf : f < 55) (a1 : bfx al f = false) (c1 : bfx ac f = true) (c2 : bfx ac (f + 1) = true) : zhw al ac f = 2 := by
  unfold zhw
  rw [if_pos ⟨h7, hf⟩, if_neg (fun z => absurd (a1.symm.trans z.1) (by decide)), if_pos ⟨c1, c2⟩]
theorem zq_ex {fl : Int64} {p q : Int64 × Int64} (hw : cFr (mOut fl) A10 100 = 1 ∧ aPc fl = 1) (ha : LY (bfx fl) (bfx p.1) (bfx p.2)) (hb : LY (bfx fl) (bfx q.1) (bfx q.2)) {r : Nat} (hr : r < 81) (hpr : hpt (bfx fl) r = true) (hne : ¬ hIn fl p.1 p.2 r = hIn fl q.1 q.2 r) : ∃ f, f < 55 ∧ zqP fl p q f := by
  have m4 : ∀ r, r < 81 → hpt (bfx fl) r = true → ∃ k : Int, hIn fl p.1 p.2 r - hIn fl q.1 q.2 r = 4 * k := fun r h1 h2 => h_mod hw ha hb h1 h2
  by_cases up : ∃ r, r < 81 ∧ (hpt (bfx fl) r = true ∧ hIn fl p.1 p.2 r < hIn fl q.1 q.2 r)
  · obtain ⟨r, r1, ⟨r2, r3⟩, r4⟩ := fin_min (v := fun r => hIn fl p.1 p.2 r) 81 up
    obtain ⟨f, h7, hf, e, o0, o1, o8, o9⟩ := d_amid hw ha hb r1 r2 (by omega)
    subst e
    obtain ⟨k, hk⟩ := m4 _ r1 r2
    obtain ⟨a1, a2, a3, a4⟩ := am_e hw ha h7 hf o0 o1 o8
    obtain ⟨b1, b2, b3, b4⟩ := am_e hw hb h7 hf o0 o1 o8
    have p1 := mp_pts (show f < 64 by omega) o0 ha
    have p2 := mp_pts (show f + 1 < 64 by omega) o1 ha
    have p3 := mp_pts (show f + 8 < 64 by omega) o8 ha
    rw [show hTL (f + 1) + 10 = hTL f + 11 by unfold hTL; omega] at p2
    rw [show hTL (f + 8) + 10 = hTL f + 19 by unfold hTL; omega] at p3
    have t := hTL_lt (show f + 8 < 64 by omega)
    have t2 : hTL (f + 8) = hTL f + 9 := by unfold hTL; omega
    have nx : ∀ s, s < 81 → hpt (bfx fl) s = true → hIn fl p.1 p.2 s < hIn fl p.1 p.2 (hTL f + 10) → ¬ hIn fl p.1 p.2 s < hIn fl q.1 q.2 s := fun s s1 s2 s3 s4 => by
      have := r4 s s1 ⟨s2, s4⟩
      omega
    refine ⟨f, hf, ?_⟩
    unfold zqP
    rcases dn_s (f := f) with ⟨sg, dn⟩ | ⟨sg, dn⟩
    · rw [sg] at a1 a4 b1 b4
      have c1 := mn_e rfl a1 b1 (by omega) (nx _ (by omega) p1.1)
      have c2 := mn_e rfl a4 b4 (by omega) (nx _ (by omega) p3.2.2)
      rw [zhw_1 h7 hf c1 c2]
      refine ⟨by decide, ?_⟩
      rw [zd_dk (show f < 64 by omega), dn]
      exact r3
    · rw [sg] at a2 a3 b2 b3
      have c1 := mn_e rfl a2 b2 (by omega) (nx _ (by omega) p1.2.1)
      have c2 := mn_e rfl a3 b3 (by omega) (nx _ (by omega) p2.2.2)
      rw [zhw_2 h7 hf (g_C ha c1).2.1 c1 c2]
      refine ⟨by decide, ?_⟩
      rw [zd_dk (show f < 64 by omega), dn]
      exact r3
  · have dwn : ∃ r, r < 81 ∧ (hpt (bfx fl) r = true ∧ hIn fl q.1 q.2 r < hIn fl p.1 p.2 r) := ⟨r, hr, hpr, by
      have : ¬ hIn fl p.1 p.2 r < hIn fl q.1 q.2 r := fun z => up ⟨r, hr, hpr, z⟩
      omega⟩
    obtain ⟨r, r1, ⟨r2, r3⟩, r4⟩ := fin_min (v := fun r => - hIn fl p.1 p.2 r) 81 dwn
    obtain ⟨f, h7, hf, e, o0, o1, o8, o9⟩ := d_amid hw ha hb r1 r2 (by omega)
    subst e
    obtain ⟨k, hk⟩ := m4 _ r1 r2
    obtain ⟨a1, a2, a3, a4⟩ := am_e hw ha h7 hf o0 o1 o8
    obtain ⟨b1, b2, b3, b4⟩ := am_e hw hb h7 hf o0 o1 o8
    have p1 := mp_pts (show f < 64 by omega) o0 ha
    have p2 := mp_pts (show f + 1 < 64 by omega) o1 ha
    have p3 := mp_pts (show f + 8 < 64 by omega) o8 ha
    rw [show hTL (f + 1) + 10 = hTL f + 11 by unfold hTL; omega] at p2
    rw [show hTL (f + 8) + 10 = hTL f + 19 by unfold hTL; omega] at p3
    have t := hTL_lt (show f + 8 < 64 by omega)
    have t2 : hTL (f + 8) = hTL f + 9 := by unfold hTL; omega
    have nx : ∀ s, s < 81 → hpt (bfx fl) s = true → hIn fl p.1 p.2 (hTL f + 10) < hIn fl p.1 p.2 s → ¬ hIn fl q.1 q.2 s < hIn fl p.1 p.2 s := fun s s1 s2 s3 s4 => by
      have := r4 s s1 ⟨s2, s4⟩
      omega
    refine ⟨f, hf, ?_⟩
    unfold zqP
    rcases dn_s (f := f) with ⟨sg, dn⟩ | ⟨sg, dn⟩
    · rw [sg] at a2 a3 b2 b3
      have c1 := mxm_e rfl a2 b2 (by omega) (nx _ (by omega) p1.2.1)
      have c2 := mxm_e rfl a3 b3 (by omega) (nx _ (by omega) p2.2.2)
      rw [zhw_2 h7 hf (g_C ha c1).2.1 c1 c2]
      refine ⟨by decide, ?_⟩
      rw [zd_dk (show f < 64 by omega), dn]
      exact r3
    · rw [sg, Int.neg_neg] at a1 a4 b1 b4
      have c1 := mxm_e rfl a1 b1 (by omega) (nx _ (by omega) p1.1)
      have c2 := mxm_e rfl a4 b4 (by omega) (nx _ (by omega) p3.2.2)
      rw [zhw_1 h7 hf c1 c2]
      refine ⟨by decide, ?_⟩
      rw [zd_dk (show f < 64 by omega), dn]
      exact r3
/-! a turn lifts the point amid its stones -/
def zfp (f : Nat) (p : Int64 × Int64) : Int64 × Int64 := (p.1 ^^^ m_alongAt (nI f), p.2 ^^^ m_acrossAt (nI f))
def zlt (p : Int64 × Int64) (f : Nat) : Int := if m_isDown (nI f) (zhw p.1 p.2 f) = true then -4 else 4
theorem zlt_v {p : Int64 × Int64} {f : Nat} (hf : f < 55) (h : ¬ zhw p.1 p.2 f = 0) : (bfx p.1 f = true ∧ bfx p.1 (f + 8) = true ∧ zlt p f = 4 * hsg (f % 8 + f / 8)) ∨ (bfx p.1 f = false ∧ bfx p.2 f = true ∧ bfx p.2 (f + 1) = true ∧ zlt p f = -4 * hsg (f % 8 + f / 8)) ∨ (bfx p.1 f = true ∧ bfx p.1 (f + 8) = false ∧ bfx p.2 f = true) := by
  obtain ⟨c, d⟩ := zhw_c h
  unfold zlt
  rw [zd_dk (show f < 64 by omega)]
  by_cases a : bfx p.1 f = true ∧ bfx p.1 (f + 8) = true
  · refine Or.inl ⟨a.1, a.2, ?_⟩
    rw [zhw_1 c.1 c.2 a.1 a.2]
    rcases dn_s (f := f) with ⟨sg, dn⟩ | ⟨sg, dn⟩
    · rw [sg, dn]; rfl
    · rw [sg, dn]; rfl
  · rcases d with d | d
    · exact absurd d a
    · cases y : bfx p.1 f with
      | false =>
        refine Or.inr (Or.inl ⟨rfl, d.1, d.2, ?_⟩)
        rw [zhw_2 c.1 c.2 y d.1 d.2]
        rcases dn_s (f := f) with ⟨sg, dn⟩ | ⟨sg, dn⟩
        · rw [sg, dn]; rfl
        · rw [sg, dn]; rfl
      | true =>
        refine Or.inr (Or.inr ⟨rfl, ?_, d.1⟩)
        cases y2 : bfx p.1 (f + 8) with
        | false => rfl
        | true => exact absurd ⟨y, y2⟩ a
theorem zl_all {fl : Int64} {p : Int64 × Int64} {f : Nat} (ha : LY (bfx fl) (bfx p.1) (bfx p.2)) (hf : f < 55) (h : ¬ zhw p.1 p.2 f = 0) : ∃ u : Bool, bfx p.1 f = u ∧ bfx p.1 (f + 8) = u ∧ bfx p.2 f = !u ∧ bfx p.2 (f + 1) = !u ∧ zlt p f = (if u then 4 else -4) * hsg (f % 8 + f / 8) ∧ bfx fl f = true ∧ bfx fl (f + 1) = true ∧ bfx fl (f + 8) = true ∧ f % 8 < 7 := by
  obtain ⟨c, -⟩ := zhw_c h
  rcases zlt_v hf h with ⟨a1, a2, e⟩ | ⟨a0, c1, c2, e⟩ | ⟨a1, -, c1⟩
  · have k := g_A ha a1
    have k1 := g_A1 ha a1
    have k8 := g_A ha a2
    have cc : bfx p.2 (f + 1) = false := by
      have e := ha.2.2.1 (f + 1)
      unfold covN at e
      obtain ⟨-, x1, -, -⟩ := pl3 e (bN_le _) (by rw [Nat.add_sub_cancel, a1, decide_eq_true (show 1 ≤ f + 1 by omega)]; rfl)
      exact bN_0 x1
    exact ⟨true, a1, a2, k.2.1, cc, e, k.1, k1.1, k8.1, c.1⟩
  · have k := g_C ha c1
    have k1 := g_C ha c2
    have k8 := g_C8 ha c1
    have aa : bfx p.1 (f + 8) = false := by
      have e := ha.2.2.1 (f + 8)
      unfold covN at e
      obtain ⟨x1, -, -, -⟩ := pl4 e (bN_le _) (by rw [Nat.add_sub_cancel, c1, decide_eq_true (show 8 ≤ f + 8 by omega)]; rfl)
      exact bN_0 x1
    exact ⟨false, a0, aa, c1, c2, e, k.1, k1.1, k8, c.1⟩
  · rw [(g_A ha a1).2.1] at c1
    exact absurd c1 (by decide)
theorem onU_f {C C' : Nat → Bool} {f p : Nat} (hf : f < 55) (h : ∀ k, k ≠ f → k ≠ f + 1 → C' k = C k) (h1 : p ≠ hTL f + 9) (h2 : p ≠ hTL f + 10) (h7 : f % 8 < 7) : onU C' (p % 9) (p / 9) = onU C (p % 9) (p / 9) := by
  unfold onU onB
  by_cases q : 1 ≤ p / 9
  · by_cases q2 : p % 9 < 8
    · rw [h (8 * (p / 9 - 1) + p % 9) (fun z => h1 (by unfold hTL; omega)) (fun z => h2 (by unfold hTL; omega))]
    · rw [decide_eq_false q2, Bool.false_and, Bool.false_and]
  · rw [decide_eq_false q, Bool.false_and, Bool.false_and]
theorem onL_f {A A' : Nat → Bool} {f p : Nat} (hf : f < 55) (h : ∀ k, k ≠ f → k ≠ f + 8 → A' k = A k) (h1 : p ≠ hTL f + 1) (h2 : p ≠ hTL f + 10) (h7 : f % 8 < 7) : onL A' (p % 9) (p / 9) = onL A (p % 9) (p / 9) := by
  unfold onL onB
  by_cases q : 1 ≤ p % 9
  · by_cases q2 : p / 9 < 8
    · rw [h (8 * (p / 9) + (p % 9 - 1)) (fun z => h1 (by unfold hTL; omega)) (fun z => h2 (by unfold hTL; omega))]
    · rw [decide_eq_false q2]
      simp only [Bool.false_and, Bool.and_false]
  · rw [decide_eq_false q, Bool.false_and, Bool.false_and]
theorem sg_4 {s x : Int} {u : Bool} (hs : s = 1 ∨ s = -1) (h : x = s * hk3 u) : x = s - (if u then 4 else 0) * s := by
  cases u with
  | true => rw [h, show hk3 true = -3 from rfl, if_pos rfl]; omega
  | false => rw [h, show hk3 false = 1 from rfl, if_neg (by decide)]; omega
theorem hIn_0 (fl al ac : Int64) : hIn fl al ac (hTL (zF0 fl)) = 0 := by unfold hIn; omega
theorem hIn_fp {fl : Int64} {p : Int64 × Int64} {f r : Nat} (hw : cFr (mOut fl) A10 100 = 1 ∧ aPc fl = 1) (ha : LY (bfx fl) (bfx p.1) (bfx p.2)) (hf : f < 55) (h : ¬ zhw p.1 p.2 f = 0) (hr : r < 81) (hpr : hpt (bfx fl) r = true) : hIn fl (zfp f p).1 (zfp f p).2 r = hIn fl p.1 p.2 r + (if r = hTL f + 10 then zlt p f else 0) := by
  obtain ⟨u, u1, u2, u3, u4, hz, o0, o1, o8, h7⟩ := zl_all ha hf h
  have ha' : LY (bfx fl) (bfx (zfp f p).1) (bfx (zfp f p).2) := zx_LY ha h
  have eA : bfx (zfp f p).1 = fB (bfx p.1) f (f + 8) := bf_al p.1 (by omega)
  have eC : bfx (zfp f p).2 = fB (bfx p.2) f (f + 1) := bf_ac p.2 (by omega)
  have H := zH_t hw.1 ha
  have H' := zH_t hw.1 ha'
  have f0 := zF0_t hw.2
  have hs := hsg_pm (f % 8 + f / 8)
  have nA : ∀ k, k ≠ f → k ≠ f + 8 → bfx (zfp f p).1 k = bfx p.1 k := fun k k1 k2 => by rw [eA]; exact fB_n (fun z => k1 z.symm) (fun z => k2 z.symm)
  have nC : ∀ k, k ≠ f → k ≠ f + 1 → bfx (zfp f p).2 k = bfx p.2 k := fun k k1 k2 => by rw [eC]; exact fB_n (fun z => k1 z.symm) (fun z => k2 z.symm)
  have c0 : bfx (zfp f p).2 f = u := by rw [eC, fB_1, u3, Bool.not_not]
  have c1 : bfx (zfp f p).2 (f + 1) = u := by rw [eC, fB_2, u4, Bool.not_not]
  have a0 : bfx (zfp f p).1 f = !u := by rw [eA, fB_1, u1]
  have a8 : bfx (zfp f p).1 (f + 8) = !u := by rw [eA, fB_2, u2]
  have K : hclK (bfx fl) (bfx (zfp f p).1) (bfx (zfp f p).2) (fun r => hIn fl (zfp f p).1 (zfp f p).2 r = hIn fl p.1 p.2 r + (if r = hTL f + 10 then zlt p f else 0)) := by
    refine ⟨fun r hr h8 ho => ?_, fun r hr h8 ho => ?_⟩
    · show (hIn fl (zfp f p).1 (zfp f p).2 r = hIn fl p.1 p.2 r + (if r = hTL f + 10 then zlt p f else 0)) ↔ (hIn fl (zfp f p).1 (zfp f p).2 (r + 1) = hIn fl p.1 p.2 (r + 1) + (if (r + 1) = hTL f + 10 then zlt p f else 0))
      have e1 := zG_ro H' h8 hr ho
      unfold hrE at ho
      rw [Bool.and_eq_true, Bool.not_eq_true'] at ho
      have e2 := zG_r H h8 hr ho.1
      by_cases q1 : r = hTL f + 10
      · subst q1
        have x1 : (hTL f + 10) % 9 = (f + 1) % 8 := by unfold hTL; omega
        have x2 : (hTL f + 10) / 9 = (f + 1) / 8 + 1 := by unfold hTL; omega
        have ho2 := ho.2
        rw [x1, x2, eU_d (show f + 1 < 64 by omega), c1] at ho2
        rw [x1, x2, show (f + 1) % 8 + ((f + 1) / 8 + 1) = f % 8 + f / 8 + 2 by omega, hsg_2] at e1
        rw [x1, x2, eU_d (show f + 1 < 64 by omega), u4, ho2, show (f + 1) % 8 + ((f + 1) / 8 + 1) = f % 8 + f / 8 + 2 by omega, hsg_2] at e2
        rw [ho2, if_neg (by decide)] at hz
        rw [if_pos rfl, if_neg (by omega)]
        simp only [Bool.not_false, show hk3 true = -3 from rfl] at e2
        unfold hIn
        omega
      · by_cases q2 : r = hTL f + 9
        · subst q2
          have x1 : (hTL f + 9) % 9 = f % 8 := by unfold hTL; omega
          have x2 : (hTL f + 9) / 9 = f / 8 + 1 := by unfold hTL; omega
          have ho2 := ho.2
          rw [x1, x2, eU_d (show f < 64 by omega), c0] at ho2
          rw [x1, x2, show f % 8 + (f / 8 + 1) = f % 8 + f / 8 + 1 by omega, hsg_s] at e1
          rw [x1, x2, eU_d (show f < 64 by omega), u3, ho2, show f % 8 + (f / 8 + 1) = f % 8 + f / 8 + 1 by omega, hsg_s] at e2
          rw [ho2, if_neg (by decide)] at hz
          rw [if_neg (by omega), if_pos (by omega)]
          simp only [Bool.not_false, show hk3 true = -3 from rfl] at e2
          unfold hIn
          omega
        · have ho2 := ho.2
          rw [onU_f hf nC q2 q1 h7] at ho2
          rw [ho2, show hk3 false = 1 from rfl, Int.mul_one] at e2
          rw [if_neg q1, if_neg (by omega)]
          unfold hIn
          omega
    · show (hIn fl (zfp f p).1 (zfp f p).2 r = hIn fl p.1 p.2 r + (if r = hTL f + 10 then zlt p f else 0)) ↔ (hIn fl (zfp f p).1 (zfp f p).2 (r + 9) = hIn fl p.1 p.2 (r + 9) + (if (r + 9) = hTL f + 10 then zlt p f else 0))
      have e1 := zG_do H' h8 ho
      unfold hdE at ho
      rw [Bool.and_eq_true, Bool.not_eq_true'] at ho
      have e2 := zG_d H h8 ho.1
      by_cases q1 : r = hTL f + 10
      · subst q1
        have x1 : (hTL f + 10) % 9 = (f + 8) % 8 + 1 := by unfold hTL; omega
        have x2 : (hTL f + 10) / 9 = (f + 8) / 8 := by unfold hTL; omega
        have ho2 := ho.2
        rw [x1, x2, eL_r (show f + 8 < 64 by omega), a8, Bool.not_eq_false'] at ho2
        rw [x1, x2, show (f + 8) % 8 + 1 + (f + 8) / 8 = f % 8 + f / 8 + 2 by omega, hsg_2] at e1
        rw [x1, x2, eL_r (show f + 8 < 64 by omega), u2, ho2, show (f + 8) % 8 + 1 + (f + 8) / 8 = f % 8 + f / 8 + 2 by omega, hsg_2] at e2
        rw [ho2, if_pos rfl] at hz
        rw [if_pos rfl, if_neg (by omega)]
        simp only [show hk3 true = -3 from rfl] at e2
        unfold hIn
        omega
      · by_cases q2 : r = hTL f + 1
        · subst q2
          have x1 : (hTL f + 1) % 9 = f % 8 + 1 := by unfold hTL; omega
          have x2 : (hTL f + 1) / 9 = f / 8 := by unfold hTL; omega
          have ho2 := ho.2
          rw [x1, x2, eL_r (show f < 64 by omega), a0, Bool.not_eq_false'] at ho2
          rw [x1, x2, show f % 8 + 1 + f / 8 = f % 8 + f / 8 + 1 by omega, hsg_s] at e1
          rw [x1, x2, eL_r (show f < 64 by omega), u1, ho2, show f % 8 + 1 + f / 8 = f % 8 + f / 8 + 1 by omega, hsg_s] at e2
          rw [ho2, if_pos rfl] at hz
          rw [if_neg (by omega), if_pos (by omega)]
          simp only [show hk3 true = -3 from rfl] at e2
          unfold hIn
          omega
        · have ho2 := ho.2
          rw [onL_f hf nA q2 q1 h7] at ho2
          rw [ho2, show hk3 false = 1 from rfl, Int.mul_one] at e2
          rw [if_neg q1, if_neg (by omega)]
          unfold hIn
          omega
  refine hK_pt ha' K hw.2 f0.2.1 f0.2.2 ?_ hr hpr
  rw [hIn_0, hIn_0, if_neg]
  · rfl
  · intro z
    have l0 := f0.1
    have e : zF0 fl = f + 9 := by unfold hTL at z; omega
    have k := f0.2.2 f (by omega)
    rw [o0] at k
    exact absurd k (by decide)
/-! how far: in whole numbers -/
noncomputable def dfI (fl : Int64) (p q : Int64 × Int64) (r : Nat) : Int := if hpt (bfx fl) r = true then hIn fl p.1 p.2 r - hIn fl q.1 q.2 r else 0
def abI (x : Int) : Int := if 0 ≤ x then x else -x
def suI (d : Nat → Int) : Nat → Int
  | 0 => 0
  | n + 1 => suI d n + abI (d n)
theorem abI_nn (x : Int) : 0 ≤ abI x := by unfold abI; split <;> omega
theorem suI_nn (d : Nat → Int) : ∀ n, 0 ≤ suI d n
  | 0 => Int.le_refl _
  | n + 1 => by
    have := suI_nn d n
    have := abI_nn (d n)
    show 0 ≤ suI d n + abI (d n)
    omega
theorem suI_0 {d : Nat → Int} : ∀ n, (∀ r, r < n → d r = 0) → suI d n = 0
  | 0, _ => rfl
  | n + 1, h => by
    show suI d n + abI (d n) = 0
    rw [suI_0 n (fun r hr => h r (by omega)), h n (by omega)]
    rfl
theorem suI_one {d d' : Nat → Int} {m : Nat} (h : ∀ r, r ≠ m → d' r = d r) (hm : abI (d' m) + 4 = abI (d m)) : ∀ n, (n ≤ m → suI d' n = suI d n) ∧ (m < n → suI d' n + 4 = suI d n)
  | 0 => ⟨fun _ => rfl, fun h => absurd h (Nat.not_lt_zero m)⟩
  | n + 1 => by
    have ih := suI_one h hm n
    refine ⟨fun hn => ?_, fun hn => ?_⟩
    · show suI d' n + abI (d' n) = suI d n + abI (d n)
      rw [ih.1 (by omega), h n (by omega)]
    · show suI d' n + abI (d' n) + 4 = suI d n + abI (d n)
      by_cases e : n = m
      · subst e
        rw [ih.1 (Nat.le_refl n)]
        omega
      · have := ih.2 (by omega)
        rw [h n e]
        omega
theorem st_4 {fl : Int64} {p q : Int64 × Int64} {f : Nat} (hw : cFr (mOut fl) A10 100 = 1 ∧ aPc fl = 1) (ha : LY (bfx fl) (bfx p.1) (bfx p.2)) (hb : LY (bfx fl) (bfx q.1) (bfx q.2)) (hf : f < 55) (h : zqP fl p q f) : suI (dfI fl (zfp f p) q) 81 + 4 = suI (dfI fl p q) 81 := by
  obtain ⟨u, u1, u2, u3, u4, hz, o0, o1, o8, h7⟩ := zl_all ha hf h.1
  have c := mp_pts (show f < 64 by omega) o0 ha
  have t := hTL_lt (show f < 64 by omega)
  obtain ⟨k, hk⟩ := h_mod hw ha hb (show hTL f + 10 < 81 by omega) c.2.2
  refine (suI_one (m := hTL f + 10) (fun r hr => ?_) ?_ 81).2 (by omega)
  · unfold dfI
    by_cases y : hpt (bfx fl) r = true
    · rw [if_pos y, if_pos y]
      by_cases l : r < 81
      · rw [hIn_fp hw ha hf h.1 l y, if_neg hr]; omega
      · exfalso
        unfold hpt onB onL onU onLU onU onB at y
        have n1 : ¬ r / 9 < 8 := by omega
        have n2 : ¬ r / 9 - 1 < 8 := by omega
        simp [n1, n2] at y
    · rw [if_neg y, if_neg y]
  · unfold dfI
    rw [if_pos c.2.2, if_pos c.2.2, hIn_fp hw ha hf h.1 (by omega) c.2.2, if_pos rfl]
    have g := h.2
    unfold zlt
    by_cases y : m_isDown (nI f) (zhw p.1 p.2 f) = true
    · rw [if_pos y] at g ⊢
      unfold abI
      rw [if_pos (by omega), if_pos (by omega)]
      omega
    · rw [if_neg y] at g ⊢
      unfold abI
      by_cases w : k = -1
      · rw [if_pos (by omega), if_neg (by omega)]
        omega
      · rw [if_neg (by omega), if_neg (by omega)]
        omega
theorem st_ex {fl : Int64} {p q : Int64 × Int64} (hw : cFr (mOut fl) A10 100 = 1 ∧ aPc fl = 1) (ha : LY (bfx fl) (bfx p.1) (bfx p.2)) (hb : LY (bfx fl) (bfx q.1) (bfx q.2)) (h : 0 < suI (dfI fl p q) 81) : ∃ f, f < 55 ∧ zqP fl p q f := by
  apply Classical.byContradiction
  intro hno
  have z : ∀ r, r < 81 → dfI fl p q r = 0 := fun r hr => by
    unfold dfI
    by_cases y : hpt (bfx fl) r = true
    · rw [if_pos y]
      apply Classical.byContradiction
      intro w
      exact hno (zq_ex hw ha hb hr y (by omega))
    · rw [if_neg y]
  rw [suI_0 81 z] at h
  exact absurd h (by decide)
