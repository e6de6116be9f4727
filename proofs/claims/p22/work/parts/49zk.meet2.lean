def mixF (j : Bool) (x y : Int32) : Int32 := if j = true then (if x < y then y else x) else (if y < x then y else x)
theorem mixF_I (j : Bool) (x y : Int32) : (mixF j x y).toInt = mxI j x.toInt y.toInt := by
  unfold mixF mxI
  cases j with
  | true =>
    rw [if_pos rfl, if_pos rfl]
    by_cases q : x < y
    · rw [if_pos q, if_pos (Int32.lt_iff_toInt_lt.mp q)]
    · rw [if_neg q, if_neg (fun z => q (Int32.lt_iff_toInt_lt.mpr z))]
  | false =>
    rw [if_neg Bool.false_ne_true, if_neg Bool.false_ne_true]
    by_cases q : y < x
    · rw [if_pos q, if_pos (Int32.lt_iff_toInt_lt.mp q)]
    · rw [if_neg q, if_neg (fun z => q (Int32.lt_iff_toInt_lt.mpr z))]
def mxQ (j : Bool) (o0 t o : Nat → Int32) (i : Nat) : Prop := ∀ r, (r < i → o r = mixF j (o0 r) (t r)) ∧ (i ≤ r → o r = o0 r)
section MXQ
variable {j : Bool} {o0 t o : Nat → Int32} {i : Nat}
theorem mxQ_0 {t : Nat → Int32} : mxQ j o t o 0 := fun r => ⟨fun h => absurd h (Nat.not_lt_zero r), fun _ => rfl⟩
theorem mxQ_u {v : Int32} (hi : i < 81) (h : mxQ j o0 t o i) (hv : v = mixF j (o (nI i).toNatClampNeg) (t (nI i).toNatClampNeg)) : mxQ j o0 t (upd o (nI i).toNatClampNeg v) (i + 1) := by
  rw [nI_clamp (Nat.lt_trans hi (by decide))] at hv ⊢
  rw [(h i).2 (Nat.le_refl i)] at hv
  refine fun r => ⟨fun hr => ?_, fun hr => ?_⟩
  · by_cases e : r = i
    · subst e
      rw [pk_us, hv]
    · rw [pk_un e]
      exact (h r).1 (by omega)
  · rw [pk_un (by omega)]
    exact (h r).2 (by omega)
theorem mxf_t {x y : Int32} (h : j = true) : (if x < y then y else x) = mixF j x y := (if_pos h).symm
theorem mxf_f {x y : Int32} (h : j = false) : (if y < x then y else x) = mixF j x y := by
  subst h
  rfl
end MXQ
def hMx (fl : Int64) (p q : Int64 × Int64) (j : Bool) (w : Nat → Int32) : Prop := ∀ r, r < 81 → hpt (bfx fl) r = true → (w r).toInt = mI fl p q j r
theorem mxQ_e {fl : Int64} {p q : Int64 × Int64} {j : Bool} {o0 t o : Nat → Int32} {i : Nat} {far : Int32} (e : i = 81) (h : mxQ j o0 t o i) (ha : hVal fl p.1 p.2 (zF0 fl) far o0) (hb : hVal fl q.1 q.2 (zF0 fl) far t) : hMx fl p q j o := by
  subst e
  intro r hr hp
  rw [(h r).1 hr, mixF_I, (ha r hr).1 hp, (hb r hr).1 hp]
  rfl
theorem ab3 {x y : Int32} {u v : Int} (hx : x.toInt = u) (hy : y.toInt = v) (h1 : -3 ≤ v - u) (h2 : v - u ≤ 3) : ((if 0 ≤ x - y then x - y else 0 - (x - y)) = 3) ↔ e3 (v - u) = true := by
  have hd : (x - y).toInt = u - v := by
    rw [Int32.toInt_sub, hx, hy]
    exact Int.bmod_eq_of_le (by omega) (by omega)
  have e0 : (0 : Int32).toInt = 0 := rfl
  have e3' : (3 : Int32).toInt = 3 := rfl
  unfold e3
  rw [decide_eq_true_iff]
  by_cases q : 0 ≤ x - y
  · rw [if_pos q]
    rw [Int32.le_iff_toInt_le, e0, hd] at q
    constructor
    · intro z
      rw [z, e3'] at hd
      omega
    · intro z
      apply Int32.toInt_inj.mp
      rw [hd, e3']
      omega
  · rw [if_neg q]
    rw [Int32.le_iff_toInt_le, e0, hd] at q
    have hn : (0 - (x - y)).toInt = v - u := by
      rw [Int32.toInt_sub, hd, e0, Int.bmod_eq_of_le (by omega) (by omega)]
      omega
    constructor
    · intro z
      rw [z, e3'] at hn
      omega
    · intro z
      apply Int32.toInt_inj.mp
      rw [hn, e3']
      omega
section MSD
variable {fl : Int64} {p q : Int64 × Int64} {j : Bool} {w : Nat → Int32} {f : Nat}
theorem ms_b (hw : cFr (mOut fl) A10 100 = 1 ∧ aPc fl = 1) (ha : LY (bfx fl) (bfx p.1) (bfx p.2)) (hb : LY (bfx fl) (bfx q.1) (bfx q.2)) (hf : f < 64) (ho : bfx fl f = true) : (-3 ≤ mI fl p q j (hTL f + 10) - mI fl p q j (hTL f + 1) ∧ mI fl p q j (hTL f + 10) - mI fl p q j (hTL f + 1) ≤ 3) ∧ (-3 ≤ mI fl p q j (hTL f + 10) - mI fl p q j (hTL f + 9) ∧ mI fl p q j (hTL f + 10) - mI fl p q j (hTL f + 9) ≤ 3) := by
  obtain ⟨s, hs, -, d2, d3, -⟩ := m_sides hw ha hb j hf ho
  have d2 := d2.imp id (fun z => z.1)
  have d3 := d3.imp id (fun z => z.1)
  generalize mI fl p q j (hTL f + 10) - mI fl p q j (hTL f + 1) = x at d2 ⊢
  generalize mI fl p q j (hTL f + 10) - mI fl p q j (hTL f + 9) = y at d3 ⊢
  rcases hs with rfl | rfl
  · rcases d2 with z | z <;> rcases d3 with y' | y' <;> (constructor <;> constructor <;> omega)
  · rcases d2 with z | z <;> rcases d3 with y' | y' <;> (constructor <;> constructor <;> omega)
theorem mp_pts (hf : f < 64) (ho : bfx fl f = true) (ha : LY (bfx fl) (bfx p.1) (bfx p.2)) : hpt (bfx fl) (hTL f + 1) = true ∧ hpt (bfx fl) (hTL f + 9) = true ∧ hpt (bfx fl) (hTL f + 10) = true := by
  have c := hcor ha (K := fun r => hpt (bfx fl) r = true) ⟨fun r _ h8 h => ⟨fun _ => (hrE_pt h8 h).2, fun _ => (hrE_pt h8 h).1⟩, fun r _ _ h => ⟨fun _ => (hdE_pt h).2, fun _ => (hdE_pt h).1⟩⟩ hf ho
  have p0 := hTL_pt (on := bfx fl) hf ho
  exact ⟨c.1.mp p0, c.2.1.mp p0, c.2.2.mp p0⟩
theorem ix_c {k : Nat} (hf : f < 64) (hk : k ≤ 10) : (nI (9 * (f / 8) + f % 8) + nI k).toNatClampNeg = hTL f + k := by
  rw [nI_add, nI_clamp (by omega)]
  rfl
theorem zmL_iff (hw : cFr (mOut fl) A10 100 = 1 ∧ aPc fl = 1) (ha : LY (bfx fl) (bfx p.1) (bfx p.2)) (hb : LY (bfx fl) (bfx q.1) (bfx q.2)) (hm : hMx fl p q j w) (hf : f < 64) (ho : bfx fl f = true) : ((if 0 ≤ w (nI (9 * (f / 8) + f % 8) + 1).toNatClampNeg - w (nI (9 * (f / 8) + f % 8) + 10).toNatClampNeg then w (nI (9 * (f / 8) + f % 8) + 1).toNatClampNeg - w (nI (9 * (f / 8) + f % 8) + 10).toNatClampNeg else 0 - (w (nI (9 * (f / 8) + f % 8) + 1).toNatClampNeg - w (nI (9 * (f / 8) + f % 8) + 10).toNatClampNeg)) = 3) ↔ e3 (mI fl p q j (hTL f + 10) - mI fl p q j (hTL f + 1)) = true := by
  have t := hTL_lt hf
  have c := mp_pts hf ho ha
  have b := (ms_b (j := j) hw ha hb hf ho).1
  rw [show (1 : Int32) = nI 1 from rfl, show (10 : Int32) = nI 10 from rfl, ix_c hf (by decide), ix_c hf (by decide)]
  exact ab3 (hm _ (by omega) c.1) (hm _ (by omega) c.2.2) b.1 b.2
theorem zmC_iff (hw : cFr (mOut fl) A10 100 = 1 ∧ aPc fl = 1) (ha : LY (bfx fl) (bfx p.1) (bfx p.2)) (hb : LY (bfx fl) (bfx q.1) (bfx q.2)) (hm : hMx fl p q j w) (hf : f < 64) (ho : bfx fl f = true) : ((if 0 ≤ w (nI (9 * (f / 8) + f % 8) + 9).toNatClampNeg - w (nI (9 * (f / 8) + f % 8) + 10).toNatClampNeg then w (nI (9 * (f / 8) + f % 8) + 9).toNatClampNeg - w (nI (9 * (f / 8) + f % 8) + 10).toNatClampNeg else 0 - (w (nI (9 * (f / 8) + f % 8) + 9).toNatClampNeg - w (nI (9 * (f / 8) + f % 8) + 10).toNatClampNeg)) = 3) ↔ e3 (mI fl p q j (hTL f + 10) - mI fl p q j (hTL f + 9)) = true := by
  have t := hTL_lt hf
  have c := mp_pts hf ho ha
  have b := (ms_b (j := j) hw ha hb hf ho).2
  rw [show (9 : Int32) = nI 9 from rfl, show (10 : Int32) = nI 10 from rfl, ix_c hf (by decide), ix_c hf (by decide)]
  exact ab3 (hm _ (by omega) c.2.1) (hm _ (by omega) c.2.2) b.1 b.2
end MSD
theorem f8_t : ∀ f : Fin 64, nI f.val - nI f.val / 8 * 8 = nI (f.val % 8) ∧ nI f.val / 8 = nI (f.val / 8) := by decide +kernel
section MON
variable {fl : Int64} {f : Nat}
theorem on_0 (hf : f < 64) : m_isOn fl (nI f - nI f / 8 * 8) (nI f / 8) = bfx fl f := by
  have e := f8_t ⟨f, hf⟩
  dsimp only at e
  rw [e.1, e.2, mon_B fl (by omega) (by omega), eB_f hf]
theorem on_1 (hf : f < 64) : m_isOn fl (nI f - nI f / 8 * 8 + 1) (nI f / 8) = (decide (f % 8 < 7) && bfx fl (f + 1)) := by
  have e := f8_t ⟨f, hf⟩
  dsimp only at e
  rw [e.1, e.2, nI_1, mon_B fl (by omega) (by omega)]
  unfold onB
  by_cases q : f % 8 < 7
  · rw [decide_eq_true (show f % 8 + 1 < 8 by omega), decide_eq_true (show f / 8 < 8 by omega), decide_eq_true q, show 8 * (f / 8) + (f % 8 + 1) = f + 1 by omega]
    rfl
  · rw [decide_eq_false (show ¬ f % 8 + 1 < 8 by omega), decide_eq_false q, Bool.false_and, Bool.false_and]
theorem on_8 (hf : f < 64) : m_isOn fl (nI f - nI f / 8 * 8) (nI f / 8 + 1) = (decide (f < 56) && bfx fl (f + 8)) := by
  have e := f8_t ⟨f, hf⟩
  dsimp only at e
  rw [e.1, e.2, nI_1, mon_B fl (by omega) (by omega)]
  unfold onB
  by_cases q : f < 56
  · rw [decide_eq_true (show f % 8 < 8 by omega), decide_eq_true (show f / 8 + 1 < 8 by omega), decide_eq_true q, show 8 * (f / 8 + 1) + f % 8 = f + 8 by omega]
    rfl
  · rw [decide_eq_false (show ¬ f / 8 + 1 < 8 by omega), decide_eq_false q, Bool.false_and, Bool.false_and, Bool.and_false]
variable {p q : Int64 × Int64} {j : Bool} {w : Nat → Int32}
theorem ml_1 (hf : f < 64) (h : m_isOn fl (nI f - nI f / 8 * 8) (nI f / 8) = false) : false = zmL fl p q j f := by
  rw [on_0 hf] at h
  unfold zmL
  rw [h, Bool.false_and, Bool.and_false]
theorem ml_2 (hf : f < 64) (h : m_isOn fl (nI f - nI f / 8 * 8 + 1) (nI f / 8) = false) : false = zmL fl p q j f := by
  rw [on_1 hf, Bool.and_eq_false_iff] at h
  unfold zmL
  rcases h with h | h
  · rw [h, Bool.false_and]
  · rw [h, Bool.false_and, Bool.and_false, Bool.and_false]
theorem ml_3 (hf : f < 64) (h : m_isOn fl (nI f - nI f / 8 * 8) (nI f / 8) = true) (h1 : m_isOn fl (nI f - nI f / 8 * 8 + 1) (nI f / 8) = true) {P : Prop} {b : Bool} (k : bfx fl f = true → (P ↔ e3 (mI fl p q j (hTL f + 10) - mI fl p q j (hTL f + 1)) = true)) (hb : b = true ↔ P) : b = zmL fl p q j f := by
  rw [on_0 hf] at h
  rw [on_1 hf, Bool.and_eq_true] at h1
  unfold zmL
  rw [h1.1, h1.2, h, Bool.true_and, Bool.true_and, Bool.true_and]
  have e := hb.trans (k h)
  generalize e3 (mI fl p q j (hTL f + 10) - mI fl p q j (hTL f + 1)) = c at e ⊢
  cases b <;> cases c <;> simp_all
theorem mc_2 (hf : f < 64) (h : m_isOn fl (nI f - nI f / 8 * 8) (nI f / 8 + 1) = false) : false = zmC fl p q j f := by
  rw [on_8 hf, Bool.and_eq_false_iff] at h
  unfold zmC
  rcases h with h | h
  · rw [h, Bool.false_and]
  · rw [h, Bool.false_and, Bool.and_false, Bool.and_false]
theorem mc_1 (hf : f < 64) (h : m_isOn fl (nI f - nI f / 8 * 8) (nI f / 8) = false) : false = zmC fl p q j f := by
  rw [on_0 hf] at h
  unfold zmC
  rw [h, Bool.false_and, Bool.and_false]
theorem mc_3 (hf : f < 64) (h : m_isOn fl (nI f - nI f / 8 * 8) (nI f / 8) = true) (h1 : m_isOn fl (nI f - nI f / 8 * 8) (nI f / 8 + 1) = true) {P : Prop} {b : Bool} (k : bfx fl f = true → (P ↔ e3 (mI fl p q j (hTL f + 10) - mI fl p q j (hTL f + 9)) = true)) (hb : b = true ↔ P) : b = zmC fl p q j f := by
  rw [on_0 hf] at h
  rw [on_8 hf, Bool.and_eq_true] at h1
  unfold zmC
  rw [h1.1, h1.2, h, Bool.true_and, Bool.true_and, Bool.true_and]
  have e := hb.trans (k h)
  generalize e3 (mI fl p q j (hTL f + 10) - mI fl p q j (hTL f + 9)) = c at e ⊢
  cases b <;> cases c <;> simp_all
end MON
def zbm (A : Nat → Bool) (n : Nat) (v : Int64) : Prop := ∀ g, bfx v g = (decide (g < n) && A g)
section ZBM
variable {A : Nat → Bool} {n : Nat} {v : Int64}
theorem zbm_0 : zbm A 0 0 := fun g => by rw [bf_0, decide_eq_false (Nat.not_lt_zero g), Bool.false_and]
theorem zbm_n (h : zbm A n v) (hA : A n = false) : zbm A (n + 1) v := fun g => by
  rw [h g]
  by_cases e : g = n
  · subst e
    rw [hA, Bool.and_false, Bool.and_false]
  · rw [show decide (g < n + 1) = decide (g < n) from decide_eq_decide.mpr (by omega)]
theorem zbm_n0 (h : zbm A n v) (hA : A n = false) : zbm A (n + 1) (v ||| 0) := by
  rw [zor0]
  exact zbm_n h hA
theorem zbm_y (hn : n < 64) (h : zbm A n v) (hA : A n = true) : zbm A (n + 1) (v ||| (1 : Int64) <<< ((nI n).toInt64 &&& 63)) := fun g => by
  rw [show bfx (v ||| (1 : Int64) <<< ((nI n).toInt64 &&& 63)) g = sB (bfx v) n g from congrFun (zBt_or v hn) g]
  by_cases e : n = g
  · subst e
    rw [sB_s, hA, decide_eq_true (Nat.lt_succ_self n)]
    rfl
  · rw [sB_n e, h g, show decide (g < n + 1) = decide (g < n) from decide_eq_decide.mpr (by omega)]
theorem zbm_e {m : Nat} (e : n = m) (hA : ∀ g, m ≤ g → A g = false) (h : zbm A n v) : bfx v = A := by
  subst e
  funext g
  rw [h g]
  by_cases q : g < n
  · rw [decide_eq_true q, Bool.true_and]
  · rw [decide_eq_false q, Bool.false_and, hA g (by omega)]
end ZBM
theorem zmL_hi {fl : Int64} {p q : Int64 × Int64} {j : Bool} {g : Nat} (h : 64 ≤ g) : zmL fl p q j g = false := by
  unfold zmL
  rw [bf_hi fl h, Bool.false_and, Bool.and_false]
theorem zmC_hi {fl : Int64} {p q : Int64 × Int64} {j : Bool} {g : Nat} (h : 56 ≤ g) : zmC fl p q j g = false := by
  unfold zmC
  rw [decide_eq_false (show ¬ g < 56 by omega), Bool.false_and]
theorem AgP_n {fl : Int64} {a b : Int32} {al ac : Int64} {o t : Nat → Int32} (h : AgP fl a b al ac o t) : (zIn (bfx fl) a.toNatClampNeg ∧ zIn (bfx fl) b.toNatClampNeg) ∧ (al, ac) = zLy fl a.toNatClampNeg ∧ hVal fl (zLy fl a.toNatClampNeg).1 (zLy fl a.toNatClampNeg).2 (zF0 fl) 1000000 o ∧ hVal fl (zLy fl b.toNatClampNeg).1 (zLy fl b.toNatClampNeg).2 (zF0 fl) 1000000 t := by
  obtain ⟨na, nb, rfl, rfl, za, zb, h1, h2, h3⟩ := h
  rw [nI_clamp (zIn_lt za), nI_clamp (zIn_lt zb)]
  exact ⟨⟨za, zb⟩, h1, h2, h3⟩
theorem ag_w {fl : Int64} {S : List Int32} {a b : Int32} (h : aAg fl S a b = 0) : aWh fl S = true := by
  cases q : aWh fl S with
  | true => rfl
  | false =>
    rw [aAg, q, if_neg Bool.false_ne_true] at h
    exact absurd h (by decide)
noncomputable def aMee (fl : Int64) (S : List Int32) (a b : Int32) (j : Bool) : Int32 := if aAg fl S a b = 0 then nI (znb (bfx fl) (zmC fl (zLy fl a.toNatClampNeg) (zLy fl b.toNatClampNeg) j) 64).1 else aAg fl S a b
theorem me_no {fl : Int64} {S : List Int32} {a b x : Int32} {j : Bool} (h : x = aAg fl S a b) (h0 : ¬ x = 0) : x = aMee fl S a b j := by rw [aMee, ← h, if_neg h0]
theorem me_yes {J0 fl v : Int64} {S : List Int32} {a b : Int32} {j : Bool} (eJ : J0 = fl) (h0 : aAg fl S a b = 0) (hv : bfx v = zmC J0 (zLy J0 a.toNatClampNeg) (zLy J0 b.toNatClampNeg) j) : nI (znb (bfx J0) (bfx v) 64).1 = aMee fl S a b j := by
  subst eJ
  rw [aMee, if_pos h0, hv]
theorem me_LY {J0 al ac : Int64} {p q : Int64 × Int64} {j : Bool} (hw : cFr (mOut J0) A10 100 = 1 ∧ aPc J0 = 1) (ha : LY (bfx J0) (bfx p.1) (bfx p.2)) (hb : LY (bfx J0) (bfx q.1) (bfx q.2)) (h1 : bfx al = zmL J0 p q j) (h2 : bfx ac = zmC J0 p q j) : LY (bfx J0) (bfx al) (bfx ac) := by
  rw [h1, h2]
  exact m_LY hw ha hb j
theorem zbm_ex {A : Nat → Bool} : ∀ n, n ≤ 64 → ∃ v, zbm A n v
  | 0, _ => ⟨0, zbm_0⟩
  | n + 1, h => by
    obtain ⟨v, hv⟩ := zbm_ex (A := A) n (by omega)
    cases q : A n with
    | true => exact ⟨_, zbm_y (by omega) hv q⟩
    | false => exact ⟨v, zbm_n hv q⟩
theorem zb_ex {A : Nat → Bool} (hA : ∀ g, 64 ≤ g → A g = false) : ∃ v, bfx v = A := by
  obtain ⟨v, hv⟩ := zbm_ex (A := A) 64 (Nat.le_refl _)
  exact ⟨v, zbm_e rfl hA hv⟩
/-! the class's stones across -/
theorem lf_t : ∀ f : Fin 56, (9 : Int32) * (nI f.val / 8 + 1) + (nI f.val - nI f.val / 8 * 8) = nI (9 * (f.val / 8) + f.val % 8 + 9) := by decide +kernel
section CST
variable {fl : Int64} {p q : Int64 × Int64} {j : Bool} {w : Nat → Int32} {f : Nat}
theorem zcC_iff (hw : cFr (mOut fl) A10 100 = 1 ∧ aPc fl = 1) (ha : LY (bfx fl) (bfx p.1) (bfx p.2)) (hb : LY (bfx fl) (bfx q.1) (bfx q.2)) (hm : hMx fl p q j w) (hf : f < 56) (ho : bfx fl f = true) : ((if 0 ≤ w (nI (9 * (f / 8) + f % 8 + 9)).toNatClampNeg - w (nI (9 * (f / 8) + f % 8 + 9) + 1).toNatClampNeg then w (nI (9 * (f / 8) + f % 8 + 9)).toNatClampNeg - w (nI (9 * (f / 8) + f % 8 + 9) + 1).toNatClampNeg else 0 - (w (nI (9 * (f / 8) + f % 8 + 9)).toNatClampNeg - w (nI (9 * (f / 8) + f % 8 + 9) + 1).toNatClampNeg)) = 3) ↔ e3 (mI fl p q j (hTL f + 10) - mI fl p q j (hTL f + 9)) = true := by
  have t := hTL_lt (show f < 64 by omega)
  have c := mp_pts (show f < 64 by omega) ho ha
  have b := (ms_b (j := j) hw ha hb (show f < 64 by omega) ho).2
  rw [nI_1, nI_clamp (by omega), nI_clamp (by omega)]
  exact ab3 (hm (hTL f + 9) (by omega) c.2.1) (hm (hTL f + 10) (by omega) c.2.2) b.1 b.2
theorem cs_y (hf : f < 56) (h1 : g_holds fl (nI f) = true) (h8 : g_holds fl (nI f + 8) = true) {P : Prop} (k : bfx fl f = true → (P ↔ e3 (mI fl p q j (hTL f + 10) - mI fl p q j (hTL f + 9)) = true)) (hP : P) : zmC fl p q j f = true := by
  have o1 := zh_b (show f < 64 by omega) h1
  rw [show (8 : Int32) = nI 8 from rfl, nI_add] at h8
  have o8 := zh_b (show f + 8 < 64 by omega) h8
  unfold zmC
  rw [decide_eq_true hf, o1, o8, (k o1).mp hP]
  rfl
theorem cs_n (hf : f < 56) (h1 : g_holds fl (nI f) = true) {P : Prop} (k : bfx fl f = true → (P ↔ e3 (mI fl p q j (hTL f + 10) - mI fl p q j (hTL f + 9)) = true)) (hP : ¬ P) : zmC fl p q j f = false := by
  have o1 := zh_b (show f < 64 by omega) h1
  have e : e3 (mI fl p q j (hTL f + 10) - mI fl p q j (hTL f + 9)) = false := by
    cases y : e3 (mI fl p q j (hTL f + 10) - mI fl p q j (hTL f + 9)) with
    | false => rfl
    | true => exact absurd ((k o1).mpr y) hP
  unfold zmC
  rw [e, Bool.and_false, Bool.and_false, Bool.and_false]
theorem cs_1 (hf : f < 56) (h1 : g_holds fl (nI f) = false) : zmC fl p q j f = false := by
  unfold zmC
  rw [zh_b (show f < 64 by omega) h1, Bool.false_and, Bool.and_false]
theorem cs_8 (hf : f < 56) (h8 : g_holds fl (nI f + 8) = false) : zmC fl p q j f = false := by
  rw [show (8 : Int32) = nI 8 from rfl, nI_add] at h8
  unfold zmC
  rw [zh_b (show f + 8 < 64 by omega) h8, Bool.false_and, Bool.and_false, Bool.and_false]
end CST
theorem me_fin {fl v : Int64} {S : List Int32} {a b : Int32} {na nb : Nat} {j : Bool} (ea : a = nI na) (eb : b = nI nb) (za : zIn (bfx fl) na) (zb : zIn (bfx fl) nb) (h0 : aAg fl S a b = 0) (hv : bfx v = zmC fl (zLy fl na) (zLy fl nb) j) : nI (znb (bfx fl) (bfx v) 64).1 = aMee fl S a b j := by
  subst ea
  subst eb
  rw [aMee, if_pos h0, hv, nI_clamp (zIn_lt za), nI_clamp (zIn_lt zb)]
theorem z_81 {i : Nat} (h : i < 56) : 9 * (i / 8) + i % 8 + 9 < 81 ∧ 9 * (i / 8) + i % 8 + 9 + 1 < 81 := by omega
theorem hac_J {J6 fl v : Int64} {p q : Int64 × Int64} {j : Bool} (e : J6 = fl) (h : bfx v = zmC J6 p q j) : bfx v = zmC fl p q j := by rw [← e]; exact h
theorem hMx_J {J6 fl : Int64} {p q : Int64 × Int64} {j : Bool} {w : Nat → Int32} (e : J6 = fl) (h : hMx fl p q j w) : hMx J6 p q j w := by rw [e]; exact h
theorem hVal_J {J6 fl al ac : Int64} {far : Int32} {w : Nat → Int32} (e : J6 = fl) (h : hVal J6 al ac (zF0 J6) far w) : hVal fl al ac (zF0 fl) far w := by
  subst e
  exact h
