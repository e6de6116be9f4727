/-! ===== the class's covering ===== -/
theorem dkb_t : ∀ f : Fin 64, bfx (-6172840429334713771) f.val = m_isDark (nI f.val - nI f.val / 8 * 8) (nI f.val / 8) := by decide +kernel
theorem dk_bb {fl : Int64} {d : Nat} (hd : d < 64) : bfx (fl &&& (-6172840429334713771)) d = true ↔ dk fl d := by
  have e := dkb_t ⟨d, hd⟩
  dsimp only at e
  rw [bf_and, e]
  unfold dk m_darkF
  rw [hb_bf fl hd]
/-- what is reached, as a row -/
def sv (rc sn : Int64) : Nat → Int32 := fun k => if bfx rc k = true ∨ bfx sn k = true then vp_nar .boolean 1 else 0
theorem sv_i {rc sn : Int64} {k : Nat} : ¬ sv rc sn k = 0 ↔ (bfx rc k = true ∨ bfx sn k = true) := by
  unfold sv
  by_cases h : bfx rc k = true ∨ bfx sn k = true
  · rw [if_pos h]; exact iff_of_true nar1 h
  · rw [if_neg h]; exact iff_of_false (fun z => z rfl) h
theorem bt_or {x : Int64} {f k : Nat} (hf : f < 64) : bfx (x ||| (1 : Int64) <<< ((nI f).toInt64 &&& 63)) k = true ↔ (k = f ∨ bfx x k = true) := by
  rw [bf_or, one_bf hf, Bool.or_eq_true, decide_eq_true_iff]
  constructor
  · rintro (z | z)
    · exact Or.inr z
    · exact Or.inl z.symm
  · rintro (z | z)
    · exact Or.inr z.symm
    · exact Or.inl z
theorem sv_rc {rc sn : Int64} {x : Nat} (hx : x < 64) : sv (rc ||| (1 : Int64) <<< ((nI x).toInt64 &&& 63)) sn = upd (sv rc sn) x (vp_nar .boolean 1) := by
  funext k
  by_cases e : k = x
  · subst e
    rw [pk_us]
    unfold sv
    rw [if_pos (Or.inl ((bt_or hx).mpr (Or.inl rfl)))]
  · rw [pk_un e]
    unfold sv
    have q : (bfx (rc ||| (1 : Int64) <<< ((nI x).toInt64 &&& 63)) k = true ∨ bfx sn k = true) ↔ (bfx rc k = true ∨ bfx sn k = true) := by
      rw [bt_or hx]
      exact ⟨fun z => z.elim (fun y => y.elim (fun w => absurd w e) Or.inl) Or.inr, fun z => z.elim (fun y => Or.inl (Or.inr y)) Or.inr⟩
    by_cases h : bfx rc k = true ∨ bfx sn k = true
    · rw [if_pos h, if_pos (q.mpr h)]
    · rw [if_neg h, if_neg (fun z => h (q.mp z))]
theorem sv_sn {rc sn : Int64} {x : Nat} (hx : x < 64) : sv rc (sn ||| (1 : Int64) <<< ((nI x).toInt64 &&& 63)) = upd (sv rc sn) x (vp_nar .boolean 1) := by
  funext k
  by_cases e : k = x
  · subst e
    rw [pk_us]
    unfold sv
    rw [if_pos (Or.inr ((bt_or hx).mpr (Or.inl rfl)))]
  · rw [pk_un e]
    unfold sv
    have q : (bfx rc k = true ∨ bfx (sn ||| (1 : Int64) <<< ((nI x).toInt64 &&& 63)) k = true) ↔ (bfx rc k = true ∨ bfx sn k = true) := by
      rw [bt_or hx]
      exact ⟨fun z => z.elim Or.inl (fun y => y.elim (fun w => absurd w e) Or.inr), fun z => z.elim Or.inl (fun y => Or.inr (Or.inr y))⟩
    by_cases h : bfx rc k = true ∨ bfx sn k = true
    · rw [if_pos h, if_pos (q.mpr h)]
    · rw [if_neg h, if_neg (fun z => h (q.mp z))]
theorem upd_id {f : Nat → Int32} {x : Nat} {v : Int32} (h : f x = v) : upd f x v = f := by
  funext k
  by_cases e : k = x
  · rw [e, pk_us, h]
  · rw [pk_un e]
/-! the queue -/
def qI (fl rc : Int64) (Q : Nat → Int32) (n : Nat) : Prop := (∀ j, j < n → ∃ d, d < 64 ∧ Q j = nI d ∧ bfx rc d = true) ∧ (∀ d, d < 64 → bfx rc d = true → dk fl d ∧ ∃ j, j < n ∧ Q j = nI d) ∧ cnP (fun d => bfx rc d = true) 64 = n
def ecR (rc : Int64) (Q : Nat → Int32) (c : Int32) (rc' : Int64) (Q' : Nat → Int32) (c' x : Int32) : Prop := (¬ (64 : Int32) ≤ c ∧ g_holds rc x = false ∧ Q' = upd Q c.toNatClampNeg x ∧ c' = c + 1 ∧ rc' = rc ||| (1 : Int64) <<< (x.toInt64 &&& 63)) ∨ (((64 : Int32) ≤ c ∨ g_holds rc x = true) ∧ Q' = Q ∧ c' = c ∧ rc' = rc)
theorem cnP_all {P : Nat → Prop} : ∀ n, cnP P n ≤ n
  | 0 => Nat.le_refl _
  | n + 1 => by
    have ih := cnP_all (P := P) n
    by_cases p : P n
    · rw [cnP_y p]; omega
    · rw [cnP_n p]; omega
theorem cnP_miss {P : Nat → Prop} {x n : Nat} (hx : x < n) (h : ¬ P x) : cnP P n < n := by
  have k := cnP_rm (Q := fun y => P y ∨ y = x) (b := x) (Or.inr rfl) n hx
  have e : cnP (fun y => (P y ∨ y = x) ∧ y ≠ x) n = cnP P n := cnP_eq (fun y _ => ⟨fun z => z.1.elim id (fun w => absurd w z.2), fun z => ⟨Or.inl z, fun w => h (w ▸ z)⟩⟩)
  have a := cnP_all (P := fun y => P y ∨ y = x) n
  omega
theorem qI_e {fl rc rc' : Int64} {Q Q' : Nat → Int32} {n x : Nat} {c' : Int32} (h : qI fl rc Q n) (hx : x < 64) (hk : dk fl x) (hr : ecR rc Q (nI n) rc' Q' c' (nI x)) : ∃ n', c' = nI n' ∧ n ≤ n' ∧ qI fl rc' Q' n' ∧ (∀ j, j < n → Q' j = Q j) ∧ (∀ sn, sv rc' sn = upd (sv rc sn) x (vp_nar .boolean 1)) := by
  have hn : n ≤ 64 := by rw [← h.2.2]; exact cnP_all 64
  rcases hr with ⟨h1, h2, rfl, rfl, rfl⟩ | ⟨h1, rfl, rfl, e3⟩
  · rw [hol_t rc hx] at h2
    rw [nI_clamp (show n < 2 ^ 31 by omega)]
    refine ⟨n + 1, nI_1 n, by omega, ⟨fun j hj => ?_, fun d hd hb => ?_, ?_⟩, fun j hj => pk_un (by omega), fun sn => sv_rc hx⟩
    · by_cases e : j = n
      · exact ⟨x, hx, by rw [e, pk_us], (bt_or hx).mpr (Or.inl rfl)⟩
      · obtain ⟨d, d1, d2, d3⟩ := h.1 j (by omega)
        exact ⟨d, d1, by rw [pk_un e]; exact d2, (bt_or hx).mpr (Or.inr d3)⟩
    · rcases (bt_or hx).mp hb with z | z
      · rw [z]; exact ⟨hk, n, by omega, by rw [pk_us]⟩
      · obtain ⟨k, j, j1, j2⟩ := h.2.1 d hd z
        exact ⟨k, j, by omega, by rw [pk_un (show j ≠ n by omega)]; exact j2⟩
    · have k := cnP_rm (Q := fun d => bfx (rc ||| (1 : Int64) <<< ((nI x).toInt64 &&& 63)) d = true) (b := x) ((bt_or hx).mpr (Or.inl rfl)) 64 hx
      rw [← k, ← h.2.2]
      congr 1
      refine cnP_eq (fun d _ => ⟨fun z => ((bt_or hx).mp z.1).elim (fun w => absurd w z.2) id, fun z => ⟨(bt_or hx).mpr (Or.inr z), fun w => by rw [← w, z] at h2; exact absurd h2 (by decide)⟩⟩)
  · have e3' := e3.symm
    subst e3'
    have hb : bfx rc x = true := by
      rcases h1 with z | z
      · rw [show (64 : Int32) = nI 64 from rfl, nI_leI (by decide) (by omega)] at z
        cases y : bfx rc x with
        | true => rfl
        | false =>
          have m := cnP_miss (P := fun d => bfx rc d = true) hx (by rw [y]; decide)
          have := h.2.2
          omega
      · rw [hol_t rc hx] at z; exact z
    refine ⟨n, rfl, Nat.le_refl _, h, fun _ _ => rfl, fun sn => (upd_id ?_).symm⟩
    unfold sv
    rw [if_pos (Or.inl hb)]
/-- those without a stone are queued -/
def qL (fl : Int64) (mate : Nat → Int32) (rc : Int64) (i : Nat) : Prop := ∀ d, bfx rc d = true ↔ (d < i ∧ d < 64 ∧ dk fl d ∧ mate d = -1)
theorem qI_0 {fl : Int64} {Q : Nat → Int32} : qI fl 0 Q 0 := by
  refine ⟨fun j hj => absurd hj (Nat.not_lt_zero j), fun d _ h => by rw [bf_0] at h; exact absurd h (by decide), ?_⟩
  have e : cnP (fun d => bfx 0 d = true) 64 = cnP (fun _ => False) 64 := cnP_eq (fun d _ => ⟨fun z => by rw [bf_0] at z; exact absurd z (by decide), fun z => z.elim⟩)
  rw [e]
  have : ∀ n, cnP (fun _ => False) n = 0 := by
    intro n
    induction n with
    | zero => rfl
    | succ n ih => rw [cnP_n (fun z => z), ih]
  exact this 64
theorem qL_0 {fl : Int64} {mate : Nat → Int32} : qL fl mate 0 0 := fun d => iff_of_false (by rw [bf_0]; decide) (fun z => absurd z.1 (Nat.not_lt_zero d))
theorem qL_n {fl : Int64} {mate : Nat → Int32} {rc : Int64} {i : Nat} (h : qL fl mate rc i) (hn : ¬ (dk fl i ∧ mate i = -1)) : qL fl mate rc (i + 1) := fun d => by
  rw [h d]
  refine ⟨fun z => ⟨by omega, z.2⟩, fun z => ⟨?_, z.2⟩⟩
  by_cases e : d = i
  · rw [e] at z; exact absurd z.2.2 hn
  · omega
theorem qL_y {fl : Int64} {mate : Nat → Int32} {rc rc' : Int64} {Q Q' : Nat → Int32} {c c' : Int32} {i : Nat} (hi : i < 64) (h : qL fl mate rc i) (hk : dk fl i) (hm : mate i = -1) (hc : ¬ (64 : Int32) ≤ c) (hr : ecR rc Q c rc' Q' c' (nI i)) : qL fl mate rc' (i + 1) := by
  rcases hr with ⟨-, -, -, -, rfl⟩ | ⟨z, -⟩
  · intro d
    rw [bt_or hi, h d]
    constructor
    · rintro (z | z)
      · rw [z]; exact ⟨by omega, hi, hk, hm⟩
      · exact ⟨by omega, z.2⟩
    · rintro ⟨a, b⟩
      by_cases e : d = i
      · exact Or.inl e
      · exact Or.inr ⟨by omega, b⟩
  · rcases z with z | z
    · exact absurd z hc
    · rw [hol_t rc hi] at z
      have := (h i).mp z
      omega
theorem q_lt {fl rc : Int64} {mate Q : Nat → Int32} {n i : Nat} (h : qI fl rc Q n) (hl : qL fl mate rc i) (hi : i < 64) : ¬ (64 : Int32) ≤ nI n := by
  have m := cnP_miss (P := fun d => bfx rc d = true) hi (fun z => by have := (hl i).mp z; omega)
  have e := h.2.2
  rw [show (64 : Int32) = nI 64 from rfl, nI_leI (by decide) (by omega)]
  omega
def qB (fl : Int64) (mate : Nat → Int32) (rc : Int64) (Q : Nat → Int32) (c : Int32) (i : Nat) : Prop := ∃ n, c = nI n ∧ qI fl rc Q n ∧ qL fl mate rc i
theorem qB_0 {fl : Int64} {mate Q : Nat → Int32} : qB fl mate 0 Q 0 0 := ⟨0, rfl, qI_0, qL_0⟩
theorem qB_n {fl : Int64} {mate Q : Nat → Int32} {rc : Int64} {c : Int32} {i : Nat} (h : qB fl mate rc Q c i) (hn : ¬ (dk fl i ∧ mate i = -1)) : qB fl mate rc Q c (i + 1) := by
  obtain ⟨n, a, b, d⟩ := h
  exact ⟨n, a, b, qL_n d hn⟩
theorem qB_y {fl : Int64} {mate Q Q' : Nat → Int32} {rc rc' : Int64} {c c' : Int32} {i : Nat} (hi : i < 64) (h : qB fl mate rc Q c i) (hk : dk fl i) (hm : mate (nI i).toNatClampNeg = -1) (hr : ecR rc Q c rc' Q' c' (nI i)) : qB fl mate rc' Q' c' (i + 1) := by
  rw [nI_clamp (by omega)] at hm
  obtain ⟨n, rfl, b, d⟩ := h
  obtain ⟨n', a', -, b', -⟩ := qI_e b hi hk hr
  exact ⟨n', a', b', qL_y hi d hk hm (q_lt b d hi) hr⟩
theorem qB_1 {fl : Int64} {mate : Nat → Int32} {i : Nat} (hi : i < 64) (h : g_holds (fl &&& (-6172840429334713771)) (nI i) = false) : ¬ (dk fl i ∧ mate i = -1) := fun z => by
  rw [hol_t _ hi] at h
  rw [(dk_bb hi).mpr z.1] at h
  exact absurd h (by decide)
theorem qB_2 {fl : Int64} {mate : Nat → Int32} {i : Nat} (hi : i < 64) (h : ¬ mate (nI i).toNatClampNeg = -1) : ¬ (dk fl i ∧ mate i = -1) := fun z => by
  rw [nI_clamp (by omega)] at h
  exact h z.2
theorem qB_d {fl : Int64} {i : Nat} (hi : i < 64) (h : g_holds (fl &&& (-6172840429334713771)) (nI i) = true) : dk fl i := by
  rw [hol_t _ hi] at h
  exact (dk_bb hi).mp h
/-! the search -/
def prS (fl : Int64) (seen Q : Nat → Int32) (i : Nat) : Prop := ∀ j d, j < i → d < 64 → Q j = nI d → ∀ g, A8 d g = true → bfx fl g = true → ¬ seen g = 0
def snL (fl sn : Int64) : Prop := ∀ k, bfx sn k = true → ¬ dk fl k
def seB (fl rc sn : Int64) (mate F Q : Nat → Int32) (n i : Nat) : Prop := qI fl rc Q n ∧ SK fl (sv rc sn) F mate (-1) ∧ sIV fl (sv rc sn) F mate (-1) ∧ prS fl (sv rc sn) Q i ∧ snL fl sn
def seI (fl rc sn : Int64) (mate F Q : Nat → Int32) (c : Int32) (i : Nat) : Prop := ∃ n, c = nI n ∧ i ≤ n ∧ seB fl rc sn mate F Q n i
def lgI (fl : Int64) (d : Nat) (v rc sn : Int64) (l : Nat) : Prop := (∀ g, g < 64 → l ≤ g → bfx v g = true → A8 d g = true ∧ bfx fl g = true ∧ bfx sn g = false) ∧ ∀ g, g < 64 → A8 d g = true → bfx fl g = true → bfx v g = true ∨ ¬ sv rc sn g = 0
def visI (fl : Int64) (d : Nat) (rc sn : Int64) (l : Nat) : Prop := ∀ g, g < 64 → g < l → A8 d g = true → bfx fl g = true → ¬ sv rc sn g = 0
def seJ (fl rc sn v : Int64) (mate F Q : Nat → Int32) (c : Int32) (i d l : Nat) : Prop := ∃ n, c = nI n ∧ i < n ∧ Q i = nI d ∧ bfx rc d = true ∧ seB fl rc sn mate F Q n i ∧ lgI fl d v rc sn l ∧ visI fl d rc sn l
section SEA
variable {fl rc sn v : Int64} {mate F Q : Nat → Int32} {c : Int32} {i d l : Nat}
theorem se_0 {k : Nat} (h : qB fl mate rc Q c k) (e : k = 64) : seI fl rc 0 mate F Q c 0 := by
  subst e
  obtain ⟨n, a, b, hl⟩ := h
  have z : ∀ d, ¬ sv rc 0 d = 0 ↔ (d < 64 ∧ dk fl d ∧ mate d = -1) := fun d => by
    rw [sv_i, bf_0, hl d]
    exact ⟨fun y => y.elim (fun w => ⟨w.2.1, w.2.2⟩) (fun w => absurd w (by decide)), fun y => Or.inl ⟨y.1, y⟩⟩
  refine ⟨n, a, Nat.zero_le _, b, sk_0 (i := 64) rfl (fun d _ hs => ⟨((z d).mp hs).2.2, Or.inr (by decide)⟩), sIV_0 (i := 64) rfl (fun d hd => ?_) (fun d hd y => absurd y (nI_ne1 hd)), fun j d hj => absurd hj (Nat.not_lt_zero j), fun k hk => by rw [bf_0] at hk; exact absurd hk (by decide)⟩
  rw [z d]
  exact ⟨fun y => ⟨y.1, Or.inr ⟨by decide, y.2⟩⟩, fun y => ⟨hd, y.2.elim (fun w => absurd w (nI_ne1 hd)) (fun w => w.2)⟩⟩
theorem se_n {n : Nat} (h : seB fl rc sn mate F Q n i) : n ≤ 64 := by
  rw [← h.1.2.2]
  exact cnP_all 64
theorem be_bit {g : Nat} (hd : d < 64) (hg : g < 64) : bfx (g_beside ((1 : Int64) <<< ((nI d).toInt64 &&& 63))) g = true ↔ A8 d g = true := by
  rw [bes _ hg]
  constructor
  · rintro ⟨a, ha, hA⟩
    rw [one_bf hd, decide_eq_true_iff] at ha
    rw [ha]
    exact hA
  · intro hA
    exact ⟨d, by rw [one_bf hd, decide_eq_true rfl], hA⟩
theorem se_t (hi : i < 64) (h : seI fl rc sn mate F Q c i) (q : ¬ c ≤ nI i) : ∃ d, d < 64 ∧ Q (nI i).toNatClampNeg = nI d ∧ seJ fl rc sn ((g_beside ((1 : Int64) <<< ((nI d).toInt64 &&& 63)) &&& fl) &&& (sn ^^^ (-1))) mate F Q c i d (d - 8) := by
  obtain ⟨n, rfl, hin, hb⟩ := h
  have hn := se_n hb
  rw [nI_leI (by omega) (by omega)] at q
  obtain ⟨d, d1, d2, d3⟩ := hb.1.1 i (by omega)
  refine ⟨d, d1, by rw [nI_clamp (by omega)]; exact d2, n, rfl, by omega, d2, d3, hb, ⟨fun g hg _ hv => ?_, fun g hg hA ho => ?_⟩, fun g hg hl hA _ => ?_⟩
  · rw [bf_andn, bf_and, Bool.and_eq_true, Bool.and_eq_true, Bool.not_eq_true'] at hv
    exact ⟨(be_bit d1 hg).mp hv.1.1, hv.1.2, hv.2⟩
  · cases y : bfx sn g with
    | true => exact Or.inr (sv_i.mpr (Or.inr y))
    | false =>
      refine Or.inl ?_
      rw [bf_andn, bf_and, (be_bit d1 hg).mpr hA, ho, y]
      rfl
  · unfold A8 at hA
    simp only [Bool.and_eq_true, Bool.or_eq_true, decide_eq_true_iff] at hA
    omega
theorem se_no (hl : l < 64) (h : seJ fl rc sn v mate F Q c i d l) (q : g_holds v (nI l) = false) : seJ fl rc sn v mate F Q c i d (l + 1) := by
  rw [hol_t v hl] at q
  obtain ⟨n, a1, a2, a3, a4, a5, a6, a7⟩ := h
  refine ⟨n, a1, a2, a3, a4, a5, ⟨fun g hg hlg hv => a6.1 g hg (by omega) hv, a6.2⟩, fun g hg hgl hA ho => ?_⟩
  by_cases e : g = l
  · subst e
    rcases a6.2 g hg hA ho with z | z
    · rw [q] at z; exact absurd z (by decide)
    · exact z
  · exact a7 g hg (by omega) hA ho
/-- what is known of a light field that is looked at -/
theorem se_g (hl : l < 64) (hd : d < 64) (h : seJ fl rc sn v mate F Q c i d l) (q : g_holds v (nI l) = true) : A8 d l = true ∧ bfx fl l = true ∧ dk fl d ∧ ¬ sv rc sn d = 0 ∧ sv rc sn l = 0 := by
  rw [hol_t v hl] at q
  obtain ⟨n, a1, a2, a3, a4, a5, a6, a7⟩ := h
  obtain ⟨k1, k2, k3⟩ := a6.1 l hl (Nat.le_refl l) q
  have kd := (a5.1.2.1 d hd a4).1
  refine ⟨k1, k2, kd, sv_i.mpr (Or.inl a4), ?_⟩
  apply Classical.byContradiction
  intro z
  rcases sv_i.mp z with y | y
  · exact dk_nb k1 kd ((a5.1.2.1 l hl y).1)
  · rw [k3] at y; exact absurd y (by decide)
theorem se_r (hl : l < 64) (hd : d < 64) (h : seJ fl rc sn v mate F Q c i d l) (q : g_holds v (nI l) = true) (hm : mate (nI l).toNatClampNeg = -1) : sfOk2 fl (-1) (upd F (nI l).toNatClampNeg (nI d)) mate (nI l) := by
  rw [nI_clamp (by omega)] at hm ⊢
  obtain ⟨hA, ho, hk, hs, h0⟩ := se_g hl hd h q
  obtain ⟨n, a1, a2, a3, a4, a5, a6, a7⟩ := h
  exact sk_end2 (sk_new a5.2.1 hd hl hs hk h0 (dk_nb hA hk)) (saj_g a5.2.2.1.2.1 hd hA ho) hl hm hd hk hA ho (fun C c1 c2 => a5.2.2.1.2.2.2 C c1 c2 d hd hk hs)
theorem se_y {rc' : Int64} {Q' : Nat → Int32} {c' : Int32} {x : Nat} (hS : SYx mate 64) (hP : PRp fl mate) (hl : l < 64) (hd : d < 64) (hx : x < 64) (h : seJ fl rc sn v mate F Q c i d l) (q : g_holds v (nI l) = true) (hm : mate (nI l).toNatClampNeg = nI x) (hr : ecR rc Q c rc' Q' c' (nI x)) : seJ fl rc' (sn ||| (1 : Int64) <<< ((nI l).toInt64 &&& 63)) v mate (upd F (nI l).toNatClampNeg (nI d)) Q' c' i d (l + 1) := by
  rw [nI_clamp (by omega)] at hm ⊢
  obtain ⟨hA, ho, hk, hs, h0⟩ := se_g hl hd h q
  obtain ⟨n, rfl, a2, a3, a4, ⟨b1, b2, b3, b4, b5⟩, a6, a7⟩ := h
  have nl := dk_nb hA hk
  have kx := pr_dk hP hl hx hm nl
  have hmx := hS.1 l x hl hx (Nat.ne_of_lt hl) hm
  obtain ⟨n', e', hn', hq', hQ', hsv⟩ := qI_e b1 hx kx hr
  have sve : sv rc' (sn ||| (1 : Int64) <<< ((nI l).toInt64 &&& 63)) = upd (upd (sv rc sn) l (vp_nar .boolean 1)) x (vp_nar .boolean 1) := by rw [hsv, sv_sn hl]
  have mono : ∀ k, ¬ sv rc sn k = 0 → ¬ sv rc' (sn ||| (1 : Int64) <<< ((nI l).toInt64 &&& 63)) k = 0 := fun k hk2 => by rw [sve]; exact su_1 (su_1 hk2)
  have rcd : bfx rc' d = true := by
    have z := mono d (sv_i.mpr (Or.inl a4))
    rcases sv_i.mp z with y | y
    · exact y
    · rcases (bt_or hl).mp y with w | w
      · exact absurd (w ▸ hk) nl
      · exact absurd hk (b5 d w)
  refine ⟨n', e', by omega, by rw [hQ' i a2]; exact a3, rcd, ⟨hq', ?_, ?_, ?_, ?_⟩, ⟨fun g hg hlg hv => ?_, fun g hg hA2 ho2 => ?_⟩, fun g hg hgl hA2 ho2 => ?_⟩
  · rw [sve]
    exact sk_mate (sk_new b2 hd hl hs hk h0 nl) hx hmx
  · rw [sve]
    exact sIV_s b3 hd hs hk hl hA ho hx hm kx
  · intro j e hj he ej g hA2 ho2
    rw [hQ' j (by omega)] at ej
    exact mono g (b4 j e hj he ej g hA2 ho2)
  · intro k hk2
    rcases (bt_or hl).mp hk2 with w | w
    · rw [w]; exact nl
    · exact b5 k w
  · obtain ⟨k1, k2, k3⟩ := a6.1 g hg (by omega) hv
    refine ⟨k1, k2, ?_⟩
    cases y : bfx (sn ||| (1 : Int64) <<< ((nI l).toInt64 &&& 63)) g with
    | false => rfl
    | true =>
      rcases (bt_or hl).mp y with w | w
      · omega
      · rw [k3] at w; exact absurd w (by decide)
  · exact (a6.2 g hg hA2 ho2).imp id (mono g)
  · by_cases e : g = l
    · rw [e, sve]
      exact su_1 (by rw [pk_us]; exact nar1)
    · exact mono g (a7 g hg (by omega) hA2 ho2)
theorem se_s (hd : d < 64) (h : seJ fl rc sn v mate F Q c i d l) (q : nI (if d + 8 < 63 then d + 8 else 63) < nI l) (hl : l ≤ 64) : seI fl rc sn mate F Q c (i + 1) := by
  obtain ⟨n, a1, a2, a3, a4, ⟨b1, b2, b3, b4, b5⟩, a6, a7⟩ := h
  rw [nI_ltI (by split <;> omega) (by omega)] at q
  refine ⟨n, a1, a2, b1, b2, b3, fun j e hj he ej g hA ho => ?_, b5⟩
  by_cases y : j = i
  · rw [y, a3] at ej
    have := nI_i64 hd he ej
    subst this
    have lg := (A8_lt hA).2
    refine a7 g lg ?_ hA ho
    unfold A8 at hA
    simp only [Bool.and_eq_true, Bool.or_eq_true, decide_eq_true_iff] at hA
    split at q <;> omega
  · exact b4 j e (by omega) he ej g hA ho
theorem se_e (hS : SYx mate 64) (hP : PRp fl mate) (hi : i ≤ 64) (h : seI fl rc sn mate F Q c i) (q : c ≤ nI i ∨ i = 64) : sEnd fl (sv rc sn) mate (-1) ∧ ∀ d, d < 64 → (bfx rc d = true ↔ (dk fl d ∧ ¬ sv rc sn d = 0)) := by
  obtain ⟨n, rfl, hin, b1, b2, b3, b4, b5⟩ := h
  have hn : n ≤ 64 := by rw [← b1.2.2]; exact cnP_all 64
  have e : n = i := by
    rcases q with q | q
    · rw [nI_leI (by omega) (by omega)] at q
      omega
    · omega
  subst e
  have rk : ∀ d, d < 64 → (bfx rc d = true ↔ (dk fl d ∧ ¬ sv rc sn d = 0)) := fun d hd => by
    constructor
    · intro z; exact ⟨(b1.2.1 d hd z).1, sv_i.mpr (Or.inl z)⟩
    · rintro ⟨k, z⟩
      rcases sv_i.mp z with y | y
      · exact y
      · exact absurd k (b5 d y)
  refine ⟨sEnd_of hS hP b3 (fun f hf hs hk w hw g hg eg ho => ?_), rk⟩
  obtain ⟨j, j1, j2⟩ := (b1.2.1 f hf ((rk f hf).mpr ⟨hk, hs⟩)).2
  exact b4 j f j1 hf j2 g (A8_bes_t ⟨f, hf⟩ ⟨g, hg⟩ ⟨w, hw⟩ eg) ho
end SEA
theorem mx_t2 : ∀ d : Fin 64, (if (0 : Int32) < nI d.val - 8 then nI d.val - 8 else 0) = nI (d.val - 8) := by decide +kernel
theorem mn_t2 : ∀ d : Fin 64, (if nI d.val + 8 < (63 : Int32) then nI d.val + 8 else 63) = nI (if d.val + 8 < 63 then d.val + 8 else 63) := by decide +kernel
/-! a way is turned over, from any that is left -/
def WL3 (fl : Int64) (v : Int32) (mate frm m0 : Nat → Int32) (i : Nat) : Prop := RG mate ∧ PRp fl mate ∧ ((v = -1 ∧ SYx mate 64 ∧ ∃ f, f < 64 ∧ dk fl f ∧ m0 f = -1 ∧ ¬ mate f = -1 ∧ ∀ k, k < 64 → dk fl k → k ≠ f → (mate k = -1 ↔ m0 k = -1)) ∨ ∃ (g : Nat) (T : Nat → Nat) (P : Nat → Prop), g < 64 ∧ v = nI g ∧ P g ∧ SYx mate g ∧ (∀ k, k < 64 → dk fl k → (mate k = -1 ↔ m0 k = -1)) ∧ CH fl (-1) T P frm mate (T g) ∧ AJP fl P frm ∧ i + cnP (fun d => dk fl d ∧ T d < T g) 64 ≤ 64)
def WS3 (fl : Int64) (g d : Nat) (T : Nat → Nat) (P : Nat → Prop) (mate frm m0 : Nat → Int32) (i : Nat) : Prop := RG mate ∧ PRp fl mate ∧ P g ∧ SYx mate g ∧ (∀ k, k < 64 → dk fl k → (mate k = -1 ↔ m0 k = -1)) ∧ CH fl (-1) T P frm mate (T g) ∧ AJP fl P frm ∧ i + cnP (fun d => dk fl d ∧ T d < T g) 64 ≤ 64 ∧ ¬ dk fl g ∧ dk fl d ∧ A8 d g = true ∧ bfx fl g = true ∧ T d < T g ∧ (mate d = -1 ∨ ∃ h2, mate d = nI h2 ∧ P h2 ∧ T h2 < T d)
theorem wl3_pos {fl : Int64} {v : Int32} {mate frm m0 : Nat → Int32} {i : Nat} (h : WL3 fl v mate frm m0 i) (q : ¬ v = -1) : ∃ (g d : Nat) (T : Nat → Nat) (P : Nat → Prop), g < 64 ∧ d < 64 ∧ v = nI g ∧ frm g = nI d ∧ WS3 fl g d T P mate frm m0 i := by
  obtain ⟨h1, p3, h3 | ⟨g, T, P, hg, hv, hP, hS, hU, hC, hJ, hc⟩⟩ := h
  · exact absurd h3.1 q
  · obtain ⟨c1, c2, d, c3, c4, c5, c6, c7⟩ := hC g hP (Nat.le_refl _)
    have a := hJ g d hP c3 c5
    exact ⟨g, d, T, P, hg, c3, hv, c5, h1, p3, hP, hS, hU, hC, hJ, hc, c2, c4, a.1, a.2, c6, c7.imp (fun z => z.1) id⟩
theorem wl3_i {fl : Int64} {g d : Nat} {T : Nat → Nat} {P : Nat → Prop} {mate frm m0 : Nat → Int32} {i : Nat} (hd : d < 64) (h : WS3 fl g d T P mate frm m0 i) : i < 64 := by
  obtain ⟨-, -, -, -, -, -, -, hc, -, hk, -, -, ht, -⟩ := h
  have k := cnP_rm (Q := fun d => dk fl d ∧ T d < T g) (b := d) ⟨hk, ht⟩ 64 hd
  omega
theorem ws3_step {fl : Int64} {g d : Nat} {T : Nat → Nat} {P : Nat → Prop} {mate frm m0 : Nat → Int32} {i : Nat} (hg : g < 64) (hd : d < 64) (h : WS3 fl g d T P mate frm m0 i) : WL3 fl (mate d) (upd (upd mate d (nI g)) g (nI d)) frm m0 (i + 1) := by
  obtain ⟨h1, p3, hP, hS, hU, hC, hJ, hc, hng, hkd, hA, hO, htd, alt⟩ := h
  have hdg : d ≠ g := fun z => Nat.lt_irrefl _ (z ▸ htd)
  obtain ⟨e1, e2, e3⟩ := ws_eq (mate := mate) hdg
  have sy := fun e => ws_sy (fl := fl) (f := 0) (e := e) (T := T) (P := P) (frm := frm) hg hd hS hdg e1 e2 e3
  generalize upd (upd mate d (nI g)) g (nI d) = m2 at e1 e2 e3 sy ⊢
  refine ⟨fun k hk => ?_, ?_, ?_⟩
  · by_cases q : k = g
    · rw [q, e1]; exact Or.inr ⟨d, hd, rfl⟩
    · by_cases q2 : k = d
      · rw [q2, e2]; exact Or.inr ⟨g, hg, rfl⟩
      · rw [e3 k q2 q]; exact h1 k hk
  · intro k x hk hx z
    by_cases q : k = g
    · subst q
      rw [e1] at z
      rw [← nI_i64 hd hx z]
      exact Or.inr ⟨hkd, hng, hA, hO⟩
    · by_cases q2 : k = d
      · subst q2
        rw [e2] at z
        rw [← nI_i64 hg hx z]
        exact Or.inl ⟨hkd, hng, hA, hO⟩
      · rw [e3 k q2 q] at z
        exact p3 k x hk hx z
  · rcases alt with m1 | ⟨h2', m1, p2, l2⟩
    · refine Or.inl ⟨m1, ⟨sy 64 (fun x hx z => ?_), fun k hk z => absurd z (by decide)⟩, d, hd, hkd, (hU d hd hkd).mp m1, by rw [e2]; exact nI_ne1 hg, fun k hk hkk hkf => ?_⟩
      · rw [m1] at z
        exact absurd z.symm (nI_ne1 hx)
      · rw [e3 k hkf (fun z => hng (z ▸ hkk))]
        exact hU k hk hkk
    · have hh2 := (hC h2' p2 (Nat.le_of_lt (Nat.lt_trans l2 htd))).1
      refine Or.inr ⟨h2', T, P, hh2, m1, p2, ⟨sy h2' (fun x hx z => ?_), fun k hk _ z => ?_⟩, fun k hk hkk => ?_, fun k hk hkt => ?_, hJ, ?_⟩
      · rw [m1] at z
        exact (nI_i64 hh2 hx z).symm
      · by_cases q : k = g
        · subst q
          rw [e1] at z
          rw [nI_i64 hd hh2 z] at l2
          exact Nat.lt_irrefl _ l2
        · by_cases q2 : k = d
          · subst q2
            rw [e2] at z
            rw [nI_i64 hg hh2 z] at htd
            exact Nat.lt_irrefl _ (Nat.lt_trans l2 htd)
          · rw [e3 k q2 q] at z
            have y1 := hS.1 k h2' hk hh2 q z
            have y2 := hS.1 d h2' hd hh2 hdg m1
            rw [y1] at y2
            exact q2 (nI_i64 hk hd y2)
      · have q : k ≠ g := fun z => hng (z ▸ hkk)
        by_cases q2 : k = d
        · subst q2
          rw [e2]
          refine iff_of_false (nI_ne1 hg) (fun z => ?_)
          have md := (hU k hk hkk).mpr z
          rw [md] at m1
          exact nI_ne1 hh2 m1.symm
        · rw [e3 k q2 q]
          exact hU k hk hkk
      · obtain ⟨c1, c2, x, c3, c4, c5, c6, c7⟩ := hC k hk (Nat.le_trans hkt (Nat.le_of_lt (Nat.lt_trans l2 htd)))
        have l3 : T x < T d := Nat.lt_trans (Nat.lt_of_lt_of_le c6 hkt) l2
        have q2 : x ≠ d := fun z => Nat.lt_irrefl _ (z ▸ l3)
        have q : x ≠ g := fun z => Nat.lt_irrefl _ (Nat.lt_trans (z ▸ l3) htd)
        refine ⟨c1, c2, x, c3, c4, c5, c6, ?_⟩
        rw [e3 x q2 q]
        exact c7
      · have k := cnP_rm (Q := fun d => dk fl d ∧ T d < T g) (b := d) ⟨hkd, htd⟩ 64 hd
        have l := cnP_le (P := fun x => dk fl x ∧ T x < T h2') (Q := fun x => (dk fl x ∧ T x < T g) ∧ x ≠ d) 64 (fun x _ z => ⟨⟨z.1, Nat.lt_trans z.2 (Nat.lt_trans l2 htd)⟩, fun y => by
          rw [y] at z
          exact absurd z.2 (by omega)⟩)
        omega
theorem ws3_step2 {fl : Int64} {g d : Nat} {T : Nat → Nat} {P : Nat → Prop} {mate frm m0 : Nat → Int32} {i : Nat} (hg : g < 64) (hd : d < 64) (h : WS3 fl g d T P mate frm m0 i) : WL3 fl (mate (nI d).toNatClampNeg) (upd (upd mate (nI d).toNatClampNeg (nI g)) (nI g).toNatClampNeg (nI d)) frm m0 (i + 1) := by
  rw [nI_clamp (Nat.lt_trans hd (by decide)), nI_clamp (Nat.lt_trans hg (by decide))]
  exact ws3_step hg hd h
/-- at the head of the class's rounds -/
def CV (fl : Int64) (mate : Nat → Int32) (i : Nat) : Prop := RG mate ∧ SYx mate 64 ∧ PRp fl mate ∧ i + cnP (UD fl mate) 64 ≤ 32
theorem wl3_0 {fl : Int64} {r : Int32} {mate frm : Nat → Int32} {i : Nat} (h : CV fl mate i) (h1 : sfOk2 fl (-1) frm mate r) (hr : ¬ r = -1) : WL3 fl r mate frm mate 0 := by
  obtain ⟨a, b, d, -⟩ := h
  rcases h1 with z | ⟨g, hg, hgr, hm, ⟨T, P, hP, hC, hJ⟩, -⟩
  · exact absurd z hr
  · refine ⟨a, d, Or.inr ⟨g, T, P, hg, hgr, hP, ⟨fun k x hk hx _ z => b.1 k x hk hx (Nat.ne_of_lt hk) z, fun k hk _ z => ?_⟩, fun _ _ _ => Iff.rfl, hC, hJ, by rw [Nat.zero_add]; exact cnP_all 64⟩⟩
    have y := b.1 k g hk hg (Nat.ne_of_lt hk) z
    rw [hm] at y
    exact nI_ne1 hk y.symm
/-- what a shift gives -/
def shP (fl : Int64) (m0 mate : Nat → Int32) : Prop := RG mate ∧ SYx mate 64 ∧ PRp fl mate ∧ ∃ f, f < 64 ∧ dk fl f ∧ m0 f = -1 ∧ ¬ mate f = -1 ∧ ∀ k, k < 64 → dk fl k → k ≠ f → (mate k = -1 ↔ m0 k = -1)
theorem wl3_e {fl : Int64} {mate frm m0 : Nat → Int32} {v : Int32} {i : Nat} (h : WL3 fl v mate frm m0 i) (q : v = -1 ∨ i = 64) : shP fl m0 mate := by
  by_cases hv : v = -1
  · obtain ⟨a, b, z | ⟨g, T, P, hg, hv2, -⟩⟩ := h
    · exact ⟨a, z.2.1, b, z.2.2⟩
    · rw [hv] at hv2
      exact absurd hv2.symm (nI_ne1 hg)
  · obtain ⟨g, d, T, P, -, hd, -, -, hw⟩ := wl3_pos h hv
    have := wl3_i hd hw
    rcases q with q | q
    · exact absurd q hv
    · omega
theorem cv_s {fl : Int64} {m0 mate : Nat → Int32} {i : Nat} (h : CV fl m0 i) (hs : shP fl m0 mate) : CV fl mate (i + 1) := by
  obtain ⟨a, b, d, f, hf, hk, h0, h1, hu⟩ := hs
  refine ⟨a, b, d, ?_⟩
  have k := cnP_rm (Q := UD fl m0) (b := f) ⟨hk, h0⟩ 64 hf
  have e : cnP (fun x => UD fl m0 x ∧ x ≠ f) 64 = cnP (UD fl mate) 64 := cnP_eq (fun x hx => ⟨fun z => ⟨z.1.1, (hu x hx z.1.1 z.2).mpr z.1.2⟩, fun z => by
    have ne : x ≠ f := fun y => by rw [y] at z; exact h1 z.2
    exact ⟨⟨z.1, (hu x hx z.1 ne).mp z.2⟩, ne⟩⟩)
  have := h.2.2.2
  omega
theorem dk_32t : ∀ a b : Fin 64, m_isDark (nI a.val - nI a.val / 8 * 8) (nI a.val / 8) = true → m_isDark (nI b.val - nI b.val / 8 * 8) (nI b.val / 8) = true → a.val / 2 = b.val / 2 → a.val = b.val := by decide +kernel
theorem dk_32 (fl : Int64) (mate : Nat → Int32) : cnP (UD fl mate) 64 ≤ 32 := by
  refine Nat.le_trans (cnP_inj (φ := fun d => d / 2) (N := 32) 64 (fun _ => True) (fun x hx _ => ⟨by omega, trivial⟩) (fun x y hx hy px py e => ?_)) (cnP_all 32)
  have k1 := px.1
  have k2 := py.1
  unfold dk m_darkF at k1 k2
  rw [Bool.and_eq_true] at k1 k2
  exact dk_32t ⟨x, hx⟩ ⟨y, hy⟩ k1.2 k2.2 e
theorem cv_0 {fl : Int64} {mate : Nat → Int32} {v : Int32} (e : v = -1) (h : ∀ p, p < 64 → mate p = v) : CV fl mate 0 := by
  subst e
  obtain ⟨a, b, -⟩ := mt_0 (i := 64) rfl h
  refine ⟨a, b, fun k x hk hx z => ?_, by rw [Nat.zero_add]; exact dk_32 fl mate⟩
  rw [h k hk] at z
  exact absurd z.symm (nI_ne1 hx)
theorem cv_33 {fl : Int64} {mate : Nat → Int32} {i : Nat} (h : CV fl mate i) (e : i = 33) : False := by
  have := h.2.2.2
  omega
theorem cnt_cnP {x : Int64} {P : Nat → Prop} : ∀ n, n ≤ 64 → (∀ d, d < 64 → (bfx x d = true ↔ P d)) → m_cnt x n = cnP P n
  | 0, _, _ => rfl
  | n + 1, h, hp => by
    rw [cn_s x (by omega), cnt_cnP n (by omega) hp]
    cases y : bfx x n with
    | true => rw [cnP_y ((hp n (by omega)).mp y)]; rfl
    | false => rw [cnP_n (fun z => by rw [(hp n (by omega)).mpr z] at y; exact absurd y (by decide))]; rfl
/-- the whole of it -/
def cvE (fl : Int64) (lf rc : Int64) : Prop := nI (m_cnt lf 64) = nI (lkN fl) ∧ ∀ d, d < 64 → (bfx rc d = true ↔ lrP fl d)
theorem cv_e {fl lf rc sn : Int64} {mate : Nat → Int32} {i : Nat} (h : CV fl mate i) (hl : ∀ d, d < 64 → (bfx lf d = true ↔ UD fl mate d)) (hs : sEnd fl (sv rc sn) mate (-1) ∧ ∀ d, d < 64 → (bfx rc d = true ↔ (dk fl d ∧ ¬ sv rc sn d = 0))) : cvE fl lf rc := by
  have vm := vm_of h.1 h.2.1 h.2.2.1
  have rl := rl_of hs.1
  refine ⟨by rw [cnt_cnP 64 (Nat.le_refl _) hl, lk_eq ⟨mate, _, vm, rl.1, rfl⟩], fun d hd => ?_⟩
  rw [← lr_iff vm rl d, hs.2 d hd]
  exact ⟨fun z => ⟨hd, z⟩, fun z => z.2⟩
theorem qL_lf {fl : Int64} {mate : Nat → Int32} {rc Q0 : Int64} (h : qL fl mate rc 64) (d : Nat) (hd : d < 64) : bfx rc d = true ↔ UD fl mate d := by
  rw [h d]
  exact ⟨fun z => z.2.2, fun z => ⟨hd, hd, z⟩⟩
theorem qB_lf {fl lf rc : Int64} {mate Q : Nat → Int32} {c : Int32} (h : qB fl mate rc Q c 64) (e : lf = rc) : ∀ d, d < 64 → (bfx lf d = true ↔ UD fl mate d) := by
  obtain ⟨n, -, -, hl⟩ := h
  rw [e]
  exact qL_lf (Q0 := 0) hl
theorem rg_x {mate : Nat → Int32} (h : RG mate) {l : Nat} (hl : l < 64) (q : ¬ mate (nI l).toNatClampNeg = -1) : ∃ x, x < 64 ∧ mate (nI l).toNatClampNeg = nI x := by
  rw [nI_clamp (Nat.lt_trans hl (by decide))] at *
  rcases h l hl with z | z
  · exact absurd z q
  · exact z
theorem lkC {J6 fl lf rc : Int64} {x : Int32} (e : J6 = fl) (h : g_isField x = true) (hc : cvE J6 lf rc) : bI (g_holds rc x) = aLkg fl x := by
  subst e
  have hw : m_within x 0 63 = true := by rw [← isF_eq]; exact h
  obtain ⟨l, ex⟩ := lk_x hw
  have k := hc.2 x.toNatClampNeg l
  rw [← hol_t rc l, ex] at k
  cases y : g_holds rc x with
  | true => exact lkg_y hw (k.mp y)
  | false => exact lkg_n hw (fun z => by rw [k.mpr z] at y; exact absurd y (by decide))
