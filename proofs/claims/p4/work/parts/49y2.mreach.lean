/-! ===== the model's pieces ===== -/
def mB (fl : Int64) (b : Bool) (p : Nat) : Bool := (!rng p && bfx fl (i10 p)) == b
theorem mB_in (fl : Int64) (p : Nat) : mB fl true p = (!rng p && bfx fl (i10 p)) := by
  unfold mB; cases (!rng p && bfx fl (i10 p)) <;> rfl
theorem mB_out (fl : Int64) : mB fl false = mOut fl := by
  funext p
  unfold mB mOut
  cases rng p <;> cases bfx fl (i10 p) <;> rfl
theorem of_w : ∀ p : Fin 100, (m_within (nI p.val - nI p.val / 10 * 10 - 1) 0 7 && m_within (nI p.val / 10 - 1) 0 7) = (!rng p.val) ∧ (rng p.val = false → 8 * (nI p.val / 10 - 1) + (nI p.val - nI p.val / 10 * 10 - 1) = nI (i10 p.val)) := by decide +kernel
theorem of_mB (fl : Int64) (b : Bool) {p : Nat} (h : p < 100) : m_isOf fl (nI p) b = mB fl b p := by
  have w := of_w ⟨p, h⟩
  rw [m_isOf, mB, m_isOn, ← Bool.and_assoc]
  rw [show (m_within (nI p - nI p / 10 * 10 - 1) 0 7 && m_within (nI p / 10 - 1) 0 7) = (!rng p) from w.1]
  cases q : rng p with
  | true => rfl
  | false =>
    rw [show (8 : Int32) * (nI p / 10 - 1) + (nI p - nI p / 10 * 10 - 1) = nI (i10 p) from w.2 q, hb_t fl (i_lt h q).1]
    rfl
theorem pc_inn (fl : Int64) : cFr (mB fl true) A10 100 = aPc fl := cnt_100 (fun f hf => by
    have l := e_lt hf
    rw [mB_in, l.2.1, l.2.2]; rfl) (fun p hr => by rw [mB_in, hr]; rfl)
theorem pc_out (fl : Int64) : cFr (mB fl false) A10 100 = cFr (mOut fl) A10 100 := by rw [mB_out]
def mtS (m : Nat → Int32) (q : Nat) : Prop := q < 100 ∧ ¬ m q = 0
def rt1 (m : Nat → Int32) (fl : Int64) (b : Bool) (x : Int32) : Bool := !decide (x - x / 10 * 10 ≤ 0) && (!decide (m (x - 1).toNatClampNeg = 0) && m_isOf fl (x - 1) b)
def rt2 (m : Nat → Int32) (fl : Int64) (b : Bool) (x : Int32) : Bool := !decide ((9 : Int32) ≤ x - x / 10 * 10) && (!decide (m (x + 1).toNatClampNeg = 0) && m_isOf fl (x + 1) b)
def rt3 (m : Nat → Int32) (fl : Int64) (b : Bool) (x : Int32) : Bool := !decide (x ≤ 9) && (!decide (m (x - 10).toNatClampNeg = 0) && m_isOf fl (x - 10) b)
def rt4 (m : Nat → Int32) (fl : Int64) (b : Bool) (x : Int32) : Bool := !decide ((90 : Int32) ≤ x) && (!decide (m (x + 10).toNatClampNeg = 0) && m_isOf fl (x + 10) b)
def besT (m : Nat → Int32) (fl : Int64) (b : Bool) (x : Int32) : Bool := ((rt1 m fl b x || rt2 m fl b x) || rt3 m fl b x) || rt4 m fl b x
theorem nb_1 : ∀ q : Fin 100, (¬ (nI q.val - nI q.val / 10 * 10 ≤ 0) ↔ 0 < q.val % 10) ∧ (0 < q.val % 10 → (nI q.val - 1).toNatClampNeg = q.val - 1 ∧ nI q.val - 1 = nI (q.val - 1)) := by decide +kernel
theorem nb_2 : ∀ q : Fin 100, (¬ ((9 : Int32) ≤ nI q.val - nI q.val / 10 * 10) ↔ q.val % 10 < 9) ∧ (q.val % 10 < 9 → (nI q.val + 1).toNatClampNeg = q.val + 1 ∧ nI q.val + 1 = nI (q.val + 1)) := by decide +kernel
theorem nb_3 : ∀ q : Fin 100, (¬ (nI q.val ≤ 9) ↔ 9 < q.val) ∧ (9 < q.val → (nI q.val - 10).toNatClampNeg = q.val - 10 ∧ nI q.val - 10 = nI (q.val - 10)) := by decide +kernel
theorem nb_4 : ∀ q : Fin 100, (¬ ((90 : Int32) ≤ nI q.val) ↔ q.val < 90) ∧ (q.val < 90 → (nI q.val + 10).toNatClampNeg = q.val + 10 ∧ nI q.val + 10 = nI (q.val + 10)) := by decide +kernel
theorem A_near {a q : Nat} (hq : q < 100) (ha : a < 100) : A10 a q = true ↔ ((0 < q % 10 ∧ a = q - 1) ∨ (q % 10 < 9 ∧ a = q + 1)) ∨ ((9 < q ∧ a = q - 10) ∨ (q < 90 ∧ a = q + 10)) := by
  unfold A10
  simp only [Bool.and_eq_true, Bool.or_eq_true, decide_eq_true_eq]
  constructor
  · rintro ⟨-, -, h⟩
    omega
  · intro h
    exact ⟨ha, hq, by omega⟩
theorem rt_of {m : Nat → Int32} {fl : Int64} {b : Bool} {q t : Nat} {P C : Prop} [Decidable C] {x : Int32} (h1 : ¬ C ↔ P) (h2 : P → x.toNatClampNeg = t ∧ x = nI t) (ht : P → t < 100) : (!decide C && (!decide (m x.toNatClampNeg = 0) && m_isOf fl x b)) = true ↔ P ∧ mtS m t ∧ mB fl b t = true := by
  rw [Bool.and_eq_true, Bool.and_eq_true, Bool.not_eq_true', Bool.not_eq_true', decide_eq_false_iff_not, decide_eq_false_iff_not, h1]
  constructor
  · rintro ⟨k1, k2, k3⟩
    obtain ⟨e1, e2⟩ := h2 k1
    rw [e1] at k2
    rw [e2, of_mB fl b (ht k1)] at k3
    exact ⟨k1, ⟨ht k1, k2⟩, k3⟩
  · rintro ⟨k1, k2, k3⟩
    obtain ⟨e1, e2⟩ := h2 k1
    refine ⟨k1, by rw [e1]; exact k2.2, ?_⟩
    rw [e2, of_mB fl b (ht k1)]; exact k3
theorem bes10 {m : Nat → Int32} {fl : Int64} {b : Bool} {q : Nat} (hq : q < 100) : besT m fl b (nI q) = true ↔ ∃ a, mtS m a ∧ mB fl b a = true ∧ A10 a q = true := by
  have r1 : rt1 m fl b (nI q) = true ↔ 0 < q % 10 ∧ mtS m (q - 1) ∧ mB fl b (q - 1) = true := rt_of (q := q) (nb_1 ⟨q, hq⟩).1 (nb_1 ⟨q, hq⟩).2 (fun _ => by omega)
  have r2 : rt2 m fl b (nI q) = true ↔ q % 10 < 9 ∧ mtS m (q + 1) ∧ mB fl b (q + 1) = true := rt_of (q := q) (nb_2 ⟨q, hq⟩).1 (nb_2 ⟨q, hq⟩).2 (fun _ => by omega)
  have r3 : rt3 m fl b (nI q) = true ↔ 9 < q ∧ mtS m (q - 10) ∧ mB fl b (q - 10) = true := rt_of (q := q) (nb_3 ⟨q, hq⟩).1 (nb_3 ⟨q, hq⟩).2 (fun _ => by omega)
  have r4 : rt4 m fl b (nI q) = true ↔ q < 90 ∧ mtS m (q + 10) ∧ mB fl b (q + 10) = true := rt_of (q := q) (nb_4 ⟨q, hq⟩).1 (nb_4 ⟨q, hq⟩).2 (fun _ => by omega)
  rw [besT, Bool.or_eq_true, Bool.or_eq_true, Bool.or_eq_true, r1, r2, r3, r4]
  constructor
  · rintro (((⟨h, k, k2⟩ | ⟨h, k, k2⟩) | ⟨h, k, k2⟩) | ⟨h, k, k2⟩)
    · exact ⟨_, k, k2, (A_near hq k.1).mpr (Or.inl (Or.inl ⟨h, rfl⟩))⟩
    · exact ⟨_, k, k2, (A_near hq k.1).mpr (Or.inl (Or.inr ⟨h, rfl⟩))⟩
    · exact ⟨_, k, k2, (A_near hq k.1).mpr (Or.inr (Or.inl ⟨h, rfl⟩))⟩
    · exact ⟨_, k, k2, (A_near hq k.1).mpr (Or.inr (Or.inr ⟨h, rfl⟩))⟩
  · rintro ⟨a, k, k2, k3⟩
    rcases (A_near hq k.1).mp k3 with (⟨h, rfl⟩ | ⟨h, rfl⟩) | (⟨h, rfl⟩ | ⟨h, rfl⟩)
    · exact Or.inl (Or.inl (Or.inl ⟨h, k, k2⟩))
    · exact Or.inl (Or.inl (Or.inr ⟨h, k, k2⟩))
    · exact Or.inl (Or.inr ⟨h, k, k2⟩)
    · exact Or.inr ⟨h, k, k2⟩
/-- the flood from p has come so far -/
def fdI (M : Nat → Bool) (m : Nat → Int32) (p : Nat) : Prop := ∃ met0 : Nat → Prop, scI M A10 met0 p ∧ M p = true ∧ ¬ met0 p ∧ (∀ q, met0 q → mtS m q) ∧ mtS m p ∧ (∀ q, mtS m q → met0 q ∨ rch M A10 p q)
theorem mtt_up {m : Nat → Int32} {p q : Nat} {v : Int32} (hv : ¬ v = 0) (h : mtS m q) : mtS (upd m p v) q := by
  refine ⟨h.1, ?_⟩
  by_cases e : q = p
  · subst e; rw [pk_us]; exact hv
  · rw [pk_un e]; exact h.2
theorem mt_dn {m : Nat → Int32} {p q : Nat} {v : Int32} (h : mtS (upd m p v) q) : q = p ∨ mtS m q := by
  by_cases e : q = p
  · exact Or.inl e
  · have z := h.2
    rw [pk_un e] at z
    exact Or.inr ⟨h.1, z⟩
theorem mt_new {m : Nat → Int32} {p : Nat} {v : Int32} (hp : p < 100) (hv : ¬ v = 0) : mtS (upd m p v) p := ⟨hp, by rw [pk_us]; exact hv⟩
theorem narb1 : ¬ vp_nar .boolean 1 = 0 := by decide
theorem cl100 {p : Nat} (h : p < 100) : (nI p).toNatClampNeg = p := nI_clamp (Nat.lt_trans h (by decide))
variable {fl : Int64} {b : Bool} {m : Nat → Int32} {p q : Nat}
theorem fd_0 (h : scI (mB fl b) A10 (mtS m) p) (hp : p < 100) (hM : m_isOf fl (nI p) b = true) (h0 : m (nI p).toNatClampNeg = 0) : fdI (mB fl b) (upd m (nI p).toNatClampNeg (vp_nar .boolean 1)) p := by
  rw [cl100 hp] at *
  rw [of_mB fl b hp] at hM
  exact ⟨mtS m, h, hM, fun z => z.2 h0, fun q hq => mtt_up narb1 hq, mt_new hp narb1, fun q hq => by
    rcases mt_dn hq with e | e
    · rw [e]; exact Or.inr rch_r
    · exact Or.inl e⟩
theorem fd_s (h : fdI (mB fl b) m p) (hq : q < 100) (hM : m_isOf fl (nI q) b = true) (hb : besT m fl b (nI q) = true) : fdI (mB fl b) (upd m (nI q).toNatClampNeg (vp_nar .boolean 1)) p := by
  rw [cl100 hq]
  rw [of_mB fl b hq] at hM
  obtain ⟨a, a1, a2, a3⟩ := (bes10 hq).mp hb
  obtain ⟨met0, h1, h2, h3, h4, h5, h6⟩ := h
  refine ⟨met0, h1, h2, h3, fun q hq => mtt_up narb1 (h4 q hq), mtt_up narb1 h5, fun q' hq' => ?_⟩
  rcases mt_dn hq' with e | e
  · subst e
    rcases h6 a a1 with z | z
    · exact Or.inl (h1.1 a q' z hM a3)
    · exact Or.inr (rch_s z hM a3)
  · exact h6 q' e
/-- none below n lies beside a met one -/
def clI (fl : Int64) (b : Bool) (m : Nat → Int32) (n : Nat) : Prop := ∀ q, q < n → mB fl b q = true → m q = 0 → besT m fl b (nI q) = false
theorem cl_0 : clI fl b m 0 := fun _ h => absurd h (Nat.not_lt_zero _)
theorem cl_s (h : clI fl b m q) (k : mB fl b q = true → m q = 0 → besT m fl b (nI q) = false) : clI fl b m (q + 1) := by
  intro q' hq'
  by_cases e : q' = q
  · rw [e]; exact k
  · exact h q' (by omega)
theorem cl_m (h : clI fl b m q) (hq : q < 100) (k : ¬ m (nI q).toNatClampNeg = 0) : clI fl b m (q + 1) := cl_s h (fun _ z => absurd z (by rw [cl100 hq] at k; exact k))
theorem cl_o (h : clI fl b m q) (hq : q < 100) (k : m_isOf fl (nI q) b = false) : clI fl b m (q + 1) := cl_s h (fun z => by rw [← of_mB fl b hq, k] at z; exact absurd z (by decide))
theorem cl_b (h : clI fl b m q) (k : besT m fl b (nI q) = false) : clI fl b m (q + 1) := cl_s h (fun _ _ => k)
theorem fd_e (h : fdI (mB fl b) m p) (hc : clI fl b m 100) : scI (mB fl b) A10 (mtS m) (p + 1) ∧ cFr (mB fl b) A10 (p + 1) = cFr (mB fl b) A10 p + 1 := by
  obtain ⟨met0, h1, h2, h3, h4, h5, h6⟩ := h
  have hM : ∀ q, mtS m q → mB fl b q = true := fun q hq => by
    rcases h6 q hq with z | z
    · obtain ⟨p', -, k2, k3⟩ := h1.2.2 q z
      exact rch_M k3 k2
    · exact rch_M z h2
  refine sc_new h1 h2 h3 h4 h5 h6 (fun a c ha hc2 hA => ?_)
  have l := (A10_lt hA).2
  refine ⟨l, fun z => ?_⟩
  have w := hc c l hc2 z
  rw [(bes10 l).mpr ⟨a, ha, hM a ha, hA⟩] at w
  exact absurd w (by decide)
theorem sc_m (h : scI (mB fl b) A10 (mtS m) p) (hp : p < 100) (k : ¬ m (nI p).toNatClampNeg = 0) : scI (mB fl b) A10 (mtS m) (p + 1) ∧ cFr (mB fl b) A10 (p + 1) = cFr (mB fl b) A10 p := sc_met h ⟨hp, by rw [cl100 hp] at k; exact k⟩
theorem sc_o (h : scI (mB fl b) A10 (mtS m) p) (hp : p < 100) (k : m_isOf fl (nI p) b = false) : scI (mB fl b) A10 (mtS m) (p + 1) ∧ cFr (mB fl b) A10 (p + 1) = cFr (mB fl b) A10 p := sc_out h (by rw [← of_mB fl b hp]; exact k)
theorem ze_s {i : Nat} (hi : i < 100) (h : ∀ j, j < i → m j = 0) : ∀ j, j < i + 1 → upd m (nI i).toNatClampNeg (vp_nar .boolean 0) j = 0 := by
  intro j hj
  rw [cl100 hi]
  by_cases e : j = i
  · subst e; rw [pk_us]; decide
  · rw [pk_un e]; exact h j (by omega)
theorem ze_e {i : Nat} (hi : i = 100) (h : ∀ j, j < i → m j = 0) : scI (mB fl b) A10 (mtS m) 0 := sc_0 (fun q hq => hq.2 (h q (by rw [hi]; exact hq.1)))
/-! the glued: none, or some -/
theorem gor_any (S : List Int32) (hS : ∀ c, c ∈ S → ¬ sP c = 0) : gOr 0 S = 0 ↔ S.any m_isG = false := by
  have k := gOr_0 (x := (-1)) (S := S)
  have e : ∀ y : Int64, (-1) &&& y = y := fun y => by rw [Int64.and_comm]; exact Int64.and_neg_one
  have e2 : ∀ y : Int64, y &&& (-1) = y := fun y => Int64.and_neg_one
  rw [e] at k
  rw [k, List.any_eq_false, List.any_eq_false]
  constructor
  · intro h c hc z
    refine h c hc ?_
    show (m_isG c && !decide (sP c &&& (-1) = 0)) = true
    rw [z, e2, decide_eq_false (hS c hc)]
    rfl
  · intro h c hc z
    have z : (m_isG c && !decide (sP c &&& (-1) = 0)) = true := z
    rw [Bool.and_eq_true] at z
    exact h c hc z.1
theorem chR_ne {Y : va_W} : ∀ (S : List Int32) (o : Option Nat), chR Y S o → ∀ c, c ∈ S → ¬ sP c = 0
  | [], _, _, c, hc => by cases hc
  | d :: S, o, h, c, hc => by
    obtain ⟨b, be, k, e, hm, hp, h2⟩ := h
    cases hc with
    | head => exact hp
    | tail _ h3 => exact chR_ne S be h2 c h3
def gCt (m : Nat → Int32) : Nat → Nat
  | 0 => 0
  | n + 1 => gCt m n + (if m_isG (m n) then 1 else 0)
theorem gCt_le (m : Nat → Int32) : ∀ n, gCt m n ≤ n
  | 0 => Nat.le_refl _
  | n + 1 => by
    have h := gCt_le m n
    show gCt m n + _ ≤ n + 1
    split <;> omega
theorem gCt_0 (m : Nat → Int32) : ∀ n, gCt m n = 0 ↔ (eL m n).any m_isG = false
  | 0 => ⟨fun _ => rfl, fun _ => rfl⟩
  | n + 1 => by
    have h := gCt_0 m n
    show gCt m n + (if m_isG (m n) then 1 else 0) = 0 ↔ (m_isG (m n) || (eL m n).any m_isG) = false
    rw [Bool.or_eq_false_iff, ← h]
    cases m_isG (m n) with
    | true => exact ⟨fun z => by simp at z, fun z => absurd z.1 (by decide)⟩
    | false => exact ⟨fun z => ⟨rfl, by simpa using z⟩, fun z => by simpa using z.2⟩
theorem gCt_t {m : Nat → Int32} {i : Nat} {v : Int32} (hi : i < 20) (h : v = nI (gCt m i)) (k : m_isG (m (nI i).toNatClampNeg) = true) : v + 1 = nI (gCt m (i + 1)) := by
  rw [cl20 (by omega)] at k
  rw [h, nI_1]
  show _ = nI (gCt m i + (if m_isG (m i) then 1 else 0))
  rw [k]; rfl
theorem gCt_f {m : Nat → Int32} {i : Nat} {v : Int32} (hi : i < 20) (h : v = nI (gCt m i)) (k : m_isG (m (nI i).toNatClampNeg) = false) : v + 0 = nI (gCt m (i + 1)) := by
  rw [cl20 (by omega)] at k
  rw [h]
  show _ = nI (gCt m i + (if m_isG (m i) then 1 else 0))
  rw [k, Int32.add_zero]; rfl
theorem gCt_e {m : Nat → Int32} {i n : Nat} {v : Int32} {S : List Int32} (h : v = nI (gCt m i)) (hi : i = n) (hn : n ≤ 20) (hS : S = eL m n) : v = 0 ↔ S.any m_isG = false := by
  subst hi
  have l := gCt_le m i
  rw [h, hS, ← gCt_0]
  exact nI_eq (b := 0) (by omega) (by decide)
theorem aPc_0 : aPc 0 = 0 := by
  have k : ∀ n, cFr (bfx 0) A8 n = 0 := by
    intro n
    induction n with
    | zero => rfl
    | succ n ih => rw [cFr_n (fun z => by have := z.1; rw [bf_0] at this; exact absurd this (by decide)), ih]
  exact k 64
/-! whole, or not -/
theorem cFr_le {M : Nat → Bool} {A : Nat → Nat → Bool} : ∀ n, cFr M A n ≤ n
  | 0 => Nat.le_refl _
  | n + 1 => by
    have h := cFr_le (M := M) (A := A) n
    by_cases e : frs M A n
    · rw [cFr_y e]; omega
    · rw [cFr_n e]; omega
theorem nc1 {M : Nat → Bool} {A : Nat → Nat → Bool} {n : Nat} (hn : n ≤ 100) : nI (cFr M A n) = 1 ↔ cFr M A n = 1 := nI_eq (b := 1) (by have := cFr_le (M := M) (A := A) n; omega) (by decide)
theorem wm_0 {fl : Int64} {S : List Int32} (h : fl = 0) : false = aWh fl S := by
  rw [wh_f]
  rintro ⟨-, h2, -⟩
  rw [h, aPc_0] at h2
  exact absurd h2 (by decide)
theorem wm_1 {fl : Int64} {S : List Int32} {r : Int32} (hr : r = 0 ↔ S.any m_isG = false) (h : ¬ r = 0) : false = aWh fl S := by
  rw [wh_f]
  exact fun z => h (hr.mpr z.1)
theorem wm_2 {fl : Int64} {S : List Int32} (h : ¬ nI (cFr (mB fl true) A10 100) = 1) : false = aWh fl S := by
  rw [wh_f]
  intro z
  rw [nc1 (by decide), pc_inn] at h
  exact h z.2.1
theorem wm_3 {fl : Int64} {S : List Int32} (h : ¬ nI (cFr (mB fl false) A10 100) = 1) : false = aWh fl S := by
  rw [wh_f]
  intro z
  rw [nc1 (by decide), pc_out] at h
  exact h z.2.2
theorem wm_4 {fl : Int64} {S : List Int32} {r : Int32} (hr : r = 0 ↔ S.any m_isG = false) (h : r = 0) (h2 : nI (cFr (mB fl true) A10 100) = 1) (h3 : nI (cFr (mB fl false) A10 100) = 1) : true = aWh fl S := by
  rw [wh_t]
  rw [nc1 (by decide), pc_inn] at h2
  rw [nc1 (by decide), pc_out] at h3
  exact ⟨hr.mp h, h2, h3⟩
/-! the dark ones -/
def DK : Int64 := (-6172840429334713771)
theorem dk_b : ∀ f : Fin 64, m_isDark (nI f.val - nI f.val / 8 * 8) (nI f.val / 8) = m_hasBit DK (nI f.val) := by decide +kernel
noncomputable def aFlo (fl : Int64) (S : List Int32) (w : Int32) : Int32 := if m_within w 0 3 then (if w = 0 then nI (m_cnt fl 64) else if w = 1 then nI (m_cnt (fl &&& DK) 64) else if w = 2 then nI (aPc fl) else bI (aWh fl S)) else (-100001)
theorem dk_s {fl : Int64} {i : Nat} (hi : i < 64) : bfx (fl &&& DK) i = (m_hasBit fl (nI i) && m_isDark (nI i - nI i / 8 * 8) (nI i / 8)) := by
  rw [bf_and, dk_b ⟨i, hi⟩, hb_t fl hi, hb_t DK hi]; rfl
theorem dk_t {fl : Int64} {i : Nat} {v : Int32} (h : v = nI (m_cnt (fl &&& DK) i)) (hi : i < 64) (h1 : m_hasBit fl (nI i) = true) (h2 : m_isDark (nI i - nI i / 8 * 8) (nI i / 8) = true) : v + 1 = nI (m_cnt (fl &&& DK) (i + 1)) := by
  rw [cn_s _ hi, dk_s hi, h1, h2, h, nI_1]; rfl
theorem dk_f {fl : Int64} {i : Nat} {v : Int32} (h : v = nI (m_cnt (fl &&& DK) i)) (hi : i < 64) (h1 : m_hasBit fl (nI i) = false ∨ m_isDark (nI i - nI i / 8 * 8) (nI i / 8) = false) : v + 0 = nI (m_cnt (fl &&& DK) (i + 1)) := by
  rw [cn_s _ hi, dk_s hi, h, Int32.add_zero]
  rcases h1 with z | z
  · rw [z]; rfl
  · rw [z, Bool.and_false]; rfl
theorem fo_x {fl : Int64} {S : List Int32} {w : Int32} (h : m_within w 0 3 = false) : (-100001 : Int32) = aFlo fl S w := by rw [aFlo, h]; rfl
theorem fo_0 {fl : Int64} {S : List Int32} {w : Int32} (h : m_within w 0 3 = true) (h0 : w = 0) : nI (m_cnt fl 64) = aFlo fl S w := by rw [aFlo, h, if_pos rfl, if_pos h0]
theorem fo_1 {fl : Int64} {S : List Int32} {w v : Int32} {i : Nat} (h : m_within w 0 3 = true) (h0 : ¬ w = 0) (h1 : w = 1) (hv : v = nI (m_cnt (fl &&& DK) i)) (hi : i = 64) : v = aFlo fl S w := by rw [aFlo, h, if_pos rfl, if_neg h0, if_pos h1, hv, hi]
theorem fo_2 {fl : Int64} {S : List Int32} {w : Int32} (h : m_within w 0 3 = true) (h0 : ¬ w = 0) (h1 : ¬ w = 1) (h2 : w = 2) : nI (cFr (mB fl true) A10 100) = aFlo fl S w := by rw [aFlo, h, if_pos rfl, if_neg h0, if_neg h1, if_pos h2, pc_inn]
theorem fo_3 {fl : Int64} {S : List Int32} {w r : Int32} (h : m_within w 0 3 = true) (h0 : ¬ w = 0) (h1 : ¬ w = 1) (h2 : ¬ w = 2) (hr : r = bI (aWh fl S)) : r = aFlo fl S w := by rw [aFlo, h, if_pos rfl, if_neg h0, if_neg h1, if_neg h2, hr]
theorem rtx0 {C : Prop} [Decidable C] {a b : Bool} (h : C) : false = (!decide C && (a && b)) := by rw [decide_eq_true h]; rfl
theorem rtx1 {C D : Prop} [Decidable C] [Decidable D] {b : Bool} (h : ¬ C) (h2 : D) : false = (!decide C && (!decide D && b)) := by rw [decide_eq_true h2, decide_eq_false h]; rfl
theorem rtx2 {C D : Prop} [Decidable C] [Decidable D] {b : Bool} (h : ¬ C) (h2 : ¬ D) (h3 : b = false) : false = (!decide C && (!decide D && b)) := by rw [decide_eq_false h2, decide_eq_false h, h3]; rfl
theorem rtx3 {C D : Prop} [Decidable C] [Decidable D] {b : Bool} (h : ¬ C) (h2 : ¬ D) (h3 : b = true) : true = (!decide C && (!decide D && b)) := by rw [decide_eq_false h2, decide_eq_false h, h3]; rfl
theorem orx1 {v a b : Bool} (h : v = a) (h2 : v = true) : true = (a || b) := by rw [← h, h2]; rfl
theorem orx2 {v a b w : Bool} (h : v = a) (h2 : v = false) (h3 : w = b) : w = (a || b) := by rw [← h, h2, h3]; rfl
