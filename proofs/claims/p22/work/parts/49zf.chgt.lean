/-! ===== the class's heights ===== -/
theorem ha_t : ∀ x : Fin 9, (decide (nI x.val < 0) = false ∧ decide (nI x.val < 8) = decide (x.val < 8)) ∧ (!decide (nI x.val - 1 < 0)) = decide (1 ≤ x.val) ∧ decide (nI x.val - 1 < 8) = true := by decide +kernel
theorem gon_B (fl : Int64) {x y : Nat} (hx : x < 9) (hy : y < 9) : g_holdsAt fl (nI x) (nI y) = onB (bfx fl) x y := by
  unfold g_holdsAt onB
  rw [(ha_t ⟨x, hx⟩).1.1, (ha_t ⟨x, hx⟩).1.2, (ha_t ⟨y, hy⟩).1.1, (ha_t ⟨y, hy⟩).1.2]
  by_cases q : x < 8
  · by_cases q2 : y < 8
    · rw [decide_eq_true q, decide_eq_true q2, fxy_t ⟨x, q⟩ ⟨y, q2⟩, hol_t fl (by dsimp only; omega)]
      rfl
    · rw [decide_eq_false q2]
      simp only [Bool.false_and, Bool.and_false]
  · rw [decide_eq_false q]
    simp only [Bool.false_and, Bool.and_false]
theorem gon_L (fl : Int64) {x y : Nat} (hx : x < 9) (hy : y < 9) : g_holdsAt fl (nI x - 1) (nI y) = onL (bfx fl) x y := by
  unfold onL
  by_cases q : 1 ≤ x
  · rw [nI_s1' ⟨x, hx⟩ q, gon_B fl (by dsimp only; omega) hy, decide_eq_true q, Bool.true_and]
  · unfold g_holdsAt
    rw [(ha_t ⟨x, hx⟩).2.1, decide_eq_false q, Bool.false_and, Bool.false_and]
theorem gon_U (fl : Int64) {x y : Nat} (hx : x < 9) (hy : y < 9) : g_holdsAt fl (nI x) (nI y - 1) = onU (bfx fl) x y := by
  unfold onU
  by_cases q : 1 ≤ y
  · rw [nI_s1' ⟨y, hy⟩ q, gon_B fl hx (by dsimp only; omega), decide_eq_true q, Bool.true_and]
  · unfold g_holdsAt
    rw [(ha_t ⟨y, hy⟩).2.1, decide_eq_false q, Bool.false_and, Bool.false_and, Bool.and_false, Bool.and_false]
theorem gon_LU (fl : Int64) {x y : Nat} (hx : x < 9) (hy : y < 9) : g_holdsAt fl (nI x - 1) (nI y - 1) = onLU (bfx fl) x y := by
  unfold onLU
  by_cases q : 1 ≤ x
  · rw [nI_s1' ⟨x, hx⟩ q, gon_U fl (by dsimp only; omega) hy, decide_eq_true q, Bool.true_and]
  · unfold g_holdsAt
    rw [(ha_t ⟨x, hx⟩).2.1, decide_eq_false q, Bool.false_and, Bool.false_and]
def g_flat (fl ac : Int64) (x y : Int32) : Bool := (g_holdsAt fl x y || g_holdsAt fl x (y - 1)) && !g_holdsAt ac x (y - 1)
def g_steep (fl al : Int64) (x y : Int32) : Bool := (g_holdsAt fl x y || g_holdsAt fl (x - 1) y) && !g_holdsAt al (x - 1) y
def g_rise (x y : Int32) : Int32 := if (x + y) &&& 1 = 1 then 1 else -1
theorem gfl_1 {fl ac : Int64} {x y : Int32} (h : g_holdsAt fl x y = true) (h2 : g_holdsAt ac x (y - 1) = true) : (0 : Int32) = bI (g_flat fl ac x y) := by rw [g_flat, h, h2]; rfl
theorem gfl_2 {fl ac : Int64} {x y : Int32} (h : g_holdsAt fl x y = true) (h2 : g_holdsAt ac x (y - 1) = false) : (1 : Int32) = bI (g_flat fl ac x y) := by rw [g_flat, h, h2]; rfl
theorem gfl_3 {fl ac : Int64} {x y : Int32} (h : g_holdsAt fl x y = false) (h1 : g_holdsAt fl x (y - 1) = false) : (0 : Int32) = bI (g_flat fl ac x y) := by rw [g_flat, h, h1]; rfl
theorem gfl_4 {fl ac : Int64} {x y : Int32} (h1 : g_holdsAt fl x (y - 1) = true) (h2 : g_holdsAt ac x (y - 1) = true) : (0 : Int32) = bI (g_flat fl ac x y) := by rw [g_flat, h1, h2, Bool.or_true]; rfl
theorem gfl_5 {fl ac : Int64} {x y : Int32} (h1 : g_holdsAt fl x (y - 1) = true) (h2 : g_holdsAt ac x (y - 1) = false) : (1 : Int32) = bI (g_flat fl ac x y) := by rw [g_flat, h1, h2, Bool.or_true]; rfl
theorem gst_1 {fl al : Int64} {x y : Int32} (h : g_holdsAt fl x y = true) (h2 : g_holdsAt al (x - 1) y = true) : (0 : Int32) = bI (g_steep fl al x y) := by rw [g_steep, h, h2]; rfl
theorem gst_2 {fl al : Int64} {x y : Int32} (h : g_holdsAt fl x y = true) (h2 : g_holdsAt al (x - 1) y = false) : (1 : Int32) = bI (g_steep fl al x y) := by rw [g_steep, h, h2]; rfl
theorem gst_3 {fl al : Int64} {x y : Int32} (h : g_holdsAt fl x y = false) (h1 : g_holdsAt fl (x - 1) y = false) : (0 : Int32) = bI (g_steep fl al x y) := by rw [g_steep, h, h1]; rfl
theorem gst_4 {fl al : Int64} {x y : Int32} (h1 : g_holdsAt fl (x - 1) y = true) (h2 : g_holdsAt al (x - 1) y = true) : (0 : Int32) = bI (g_steep fl al x y) := by rw [g_steep, h1, h2, Bool.or_true]; rfl
theorem gst_5 {fl al : Int64} {x y : Int32} (h1 : g_holdsAt fl (x - 1) y = true) (h2 : g_holdsAt al (x - 1) y = false) : (1 : Int32) = bI (g_steep fl al x y) := by rw [g_steep, h1, h2, Bool.or_true]; rfl
theorem gr_1 {x y : Int32} (h : (x + y) &&& 1 = 1) : (1 : Int32) = g_rise x y := (if_pos h).symm
theorem gr_2 {x y : Int32} (h : ¬ (x + y) &&& 1 = 1) : (-1 : Int32) = g_rise x y := (if_neg h).symm
section GED
variable {fl al ac : Int64} {p : Nat}
theorem gf_0 (hp : p < 81) : g_flat fl ac (nI p - nI p / 9 * 9) (nI p / 9) = hrE (bfx fl) (bfx ac) p := by
  have e := p9_t ⟨p, hp⟩
  dsimp only at e
  unfold g_flat hrE
  rw [e.1, e.2, gon_B fl (by omega) (by omega), gon_U fl (by omega) (by omega), gon_U ac (by omega) (by omega), Bool.or_comm]
theorem gf_1 (hp : p < 81) (h : g_flat fl ac (nI p - nI p / 9 * 9 - 1) (nI p / 9) = true) : 1 ≤ p % 9 ∧ hrE (bfx fl) (bfx ac) (p - 1) = true := by
  have e := p9_t ⟨p, hp⟩
  dsimp only at e
  unfold g_flat at h
  rw [e.1, e.2, gon_L fl (by omega) (by omega), gon_LU fl (by omega) (by omega), gon_LU ac (by omega) (by omega)] at h
  by_cases q : 1 ≤ p % 9
  · refine ⟨q, ?_⟩
    unfold hrE
    unfold onL onLU at h
    rw [decide_eq_true q, Bool.true_and, Bool.true_and, Bool.true_and] at h
    rw [show (p - 1) % 9 = p % 9 - 1 by omega, show (p - 1) / 9 = p / 9 by omega, Bool.or_comm]
    exact h
  · unfold onL onLU at h
    rw [decide_eq_false q, Bool.false_and, Bool.false_and, Bool.false_and] at h
    exact absurd h (by decide)
theorem gf_1n (hp : p < 81) (h : g_flat fl ac (nI p - nI p / 9 * 9 - 1) (nI p / 9) = false) (q : 1 ≤ p % 9) : hrE (bfx fl) (bfx ac) (p - 1) = false := by
  have e := p9_t ⟨p, hp⟩
  dsimp only at e
  unfold g_flat at h
  rw [e.1, e.2, gon_L fl (by omega) (by omega), gon_LU fl (by omega) (by omega), gon_LU ac (by omega) (by omega)] at h
  unfold hrE
  unfold onL onLU at h
  rw [decide_eq_true q, Bool.true_and, Bool.true_and, Bool.true_and] at h
  rw [show (p - 1) % 9 = p % 9 - 1 by omega, show (p - 1) / 9 = p / 9 by omega, Bool.or_comm]
  exact h
theorem gs_0 (hp : p < 81) : g_steep fl al (nI p - nI p / 9 * 9) (nI p / 9) = hdE (bfx fl) (bfx al) p := by
  have e := p9_t ⟨p, hp⟩
  dsimp only at e
  unfold g_steep hdE
  rw [e.1, e.2, gon_B fl (by omega) (by omega), gon_L fl (by omega) (by omega), gon_L al (by omega) (by omega), Bool.or_comm]
theorem onLU_L (on : Nat → Bool) (x y : Nat) (hy : 1 ≤ y) : onLU on x y = onL on x (y - 1) := by
  unfold onLU onU onL
  rw [decide_eq_true hy, Bool.true_and]
theorem gs_1 (hp : p < 81) (h : g_steep fl al (nI p - nI p / 9 * 9) (nI p / 9 - 1) = true) : 9 ≤ p ∧ hdE (bfx fl) (bfx al) (p - 9) = true := by
  have e := p9_t ⟨p, hp⟩
  dsimp only at e
  unfold g_steep at h
  rw [e.1, e.2, gon_U fl (by omega) (by omega), gon_LU fl (by omega) (by omega), gon_LU al (by omega) (by omega)] at h
  by_cases q : 9 ≤ p
  · refine ⟨q, ?_⟩
    unfold hdE
    rw [onLU_L _ _ _ (by omega), onLU_L _ _ _ (by omega)] at h
    unfold onU at h
    rw [decide_eq_true (show 1 ≤ p / 9 by omega), Bool.true_and] at h
    rw [show (p - 9) % 9 = p % 9 by omega, show (p - 9) / 9 = p / 9 - 1 by omega, Bool.or_comm]
    exact h
  · unfold onLU onU at h
    rw [decide_eq_false (show ¬ 1 ≤ p / 9 by omega)] at h
    simp at h
theorem gs_1n (hp : p < 81) (h : g_steep fl al (nI p - nI p / 9 * 9) (nI p / 9 - 1) = false) (q : 9 ≤ p) : hdE (bfx fl) (bfx al) (p - 9) = false := by
  have e := p9_t ⟨p, hp⟩
  dsimp only at e
  unfold g_steep at h
  rw [e.1, e.2, gon_U fl (by omega) (by omega), gon_LU fl (by omega) (by omega), gon_LU al (by omega) (by omega)] at h
  unfold hdE
  rw [onLU_L _ _ _ (by omega), onLU_L _ _ _ (by omega)] at h
  unfold onU at h
  rw [decide_eq_true (show 1 ≤ p / 9 by omega), Bool.true_and] at h
  rw [show (p - 9) % 9 = p % 9 by omega, show (p - 9) / 9 = p / 9 - 1 by omega, Bool.or_comm]
  exact h
theorem hrE_8 {on C : Nat → Bool} (h : hrE on C p = true) : p % 9 < 8 := by
  unfold hrE at h
  rw [Bool.and_eq_true, Bool.or_eq_true] at h
  rcases h.1 with k | k
  · exact (onU_t k).2.1
  · exact (onB_t k).1
theorem hdE_8 {on A : Nat → Bool} (h : hdE on A p = true) : p / 9 < 8 := by
  unfold hdE at h
  rw [Bool.and_eq_true, Bool.or_eq_true] at h
  rcases h.1 with k | k
  · exact (onL_t k).2.2.1
  · exact (onB_t k).2.1
end GED
theorem pe_1 : ∀ p : Fin 81, p.val % 9 < 8 → (9 : Int32) * (nI p.val / 9) + (nI p.val - nI p.val / 9 * 9 + 1) = nI (p.val + 1) := by decide +kernel
theorem pe_2 : ∀ p : Fin 81, 1 ≤ p.val % 9 → (9 : Int32) * (nI p.val / 9) + (nI p.val - nI p.val / 9 * 9 - 1) = nI (p.val - 1) := by decide +kernel
theorem pe_3 : ∀ p : Fin 81, p.val / 9 < 8 → (9 : Int32) * (nI p.val / 9 + 1) + (nI p.val - nI p.val / 9 * 9) = nI (p.val + 9) := by decide +kernel
theorem pe_4 : ∀ p : Fin 81, 9 ≤ p.val → (9 : Int32) * (nI p.val / 9 - 1) + (nI p.val - nI p.val / 9 * 9) = nI (p.val - 9) := by decide +kernel
theorem ri_0 : ∀ p : Fin 81, (g_rise (nI p.val - nI p.val / 9 * 9) (nI p.val / 9)).toInt = hsg (p.val % 9 + p.val / 9) := by decide +kernel
theorem ri_1 : ∀ p : Fin 81, 1 ≤ p.val % 9 → (g_rise (nI p.val - nI p.val / 9 * 9 - 1) (nI p.val / 9)).toInt = hsg ((p.val - 1) % 9 + (p.val - 1) / 9) := by decide +kernel
theorem ri_2 : ∀ p : Fin 81, 9 ≤ p.val → (g_rise (nI p.val - nI p.val / 9 * 9) (nI p.val / 9 - 1)).toInt = hsg ((p.val - 9) % 9 + (p.val - 9) / 9) := by decide +kernel
theorem hsg_pm (n : Nat) : hsg n = 1 ∨ hsg n = -1 := by
  unfold hsg
  split
  · exact Or.inl rfl
  · exact Or.inr rfl
/-! the queue -/
def cU (m : Nat → Int32) : Nat → Nat
  | 0 => 0
  | n + 1 => cU m n + if m n = 1000 then 1 else 0
theorem cU_out {m : Nat → Int32} {q : Nat} {v : Int32} : ∀ n, n ≤ q → cU (upd m q v) n = cU m n
  | 0, _ => rfl
  | n + 1, h => by rw [cU, cU, cU_out n (by omega), pk_un (by omega)]
theorem cU_upd {m : Nat → Int32} {q : Nat} {v : Int32} (h0 : m q = 1000) (hv : ¬ v = 1000) : ∀ n, q < n → cU (upd m q v) n + 1 = cU m n
  | 0, h => absurd h (Nat.not_lt_zero _)
  | n + 1, h => by
    rw [cU, cU]
    by_cases e : q = n
    · subst e
      rw [cU_out q (Nat.le_refl q), pk_us, if_neg hv, if_pos h0]
    · have ih := cU_upd h0 hv n (by omega)
      rw [pk_un (fun z => e z.symm)]
      exact cF_ar ih
theorem cU_full {m : Nat → Int32} : ∀ n, (∀ p, p < n → m p = 1000) → cU m n = n
  | 0, _ => rfl
  | n + 1, h => by rw [cU, cU_full n (fun p hp => h p (by omega)), if_pos (h n (by omega))]
def bQ (fl al ac : Int64) (fp : Nat) (T Q : Nat → Int32) (n : Nat) : Prop := n + cU T 81 = 81 ∧ (∀ j, j < n → ∃ p, Q j = nI p ∧ p < 81 ∧ hpt (bfx fl) p = true ∧ (T p).toInt = zG fl al ac p - zG fl al ac fp ∧ -(j : Int) ≤ (T p).toInt ∧ (T p).toInt ≤ j) ∧ ∀ p, p < 81 → ¬ T p = 1000 → ∃ j, j < n ∧ Q j = nI p
def rcR (T Q : Nat → Int32) (c : Int32) (T' Q' : Nat → Int32) (c' x h : Int32) : Prop := (vp_in x 81 ∧ T x.toNatClampNeg = 1000 ∧ vp_in c 81 ∧ T' = upd T x.toNatClampNeg h ∧ Q' = upd Q c.toNatClampNeg x ∧ c' = c + 1) ∨ ((x < 0 ∨ 81 ≤ x ∨ ¬ T x.toNatClampNeg = 1000 ∨ 81 ≤ c) ∧ T' = T ∧ Q' = Q ∧ c' = c)
/-- what a reach leaves as it was -/
def bX (T Q : Nat → Int32) (n : Nat) (T' Q' : Nat → Int32) (n' : Nat) : Prop := n ≤ n' ∧ (∀ r, r < 81 → ¬ T r = 1000 → T' r = T r) ∧ ∀ j, j < n → Q' j = Q j
theorem nInj81 {a b : Nat} (ha : a < 81) (hb : b < 81) (h : nI a = nI b) : a = b := by
  have e := congrArg Int32.toNatClampNeg h
  rw [nI_clamp (by omega), nI_clamp (by omega)] at e
  exact e
theorem bQ_s {fl al ac : Int64} {fp : Nat} {T Q T' Q' : Nat → Int32} {n i q : Nat} {c' v : Int32} (hb : bQ fl al ac fp T Q n) (hi : i < n) (hq : q < 81) (hpt1 : hpt (bfx fl) q = true) (hv : v.toInt = zG fl al ac q - zG fl al ac fp) (hv1 : -((i : Int) + 1) ≤ v.toInt) (hv2 : v.toInt ≤ (i : Int) + 1) (hr : rcR T Q (nI n) T' Q' c' (nI q) v) : ∃ n', c' = nI n' ∧ bQ fl al ac fp T' Q' n' ∧ bX T Q n T' Q' n' ∧ ¬ T' q = 1000 := by
  have hn : n ≤ 81 := by have := hb.1; omega
  have e1000 : (1000 : Int32).toInt = 1000 := rfl
  have v1000 : ¬ v = 1000 := fun z => by rw [z, e1000] at hv2; omega
  rcases hr with ⟨-, h0, -, rfl, rfl, rfl⟩ | ⟨hno, rfl, rfl, rfl⟩
  · rw [nI_clamp (by omega)] at h0
    rw [nI_clamp (show q < 2 ^ 31 by omega), nI_clamp (show n < 2 ^ 31 by omega)]
    have hc := cU_upd h0 v1000 81 hq
    have hb1 := hb.1
    refine ⟨n + 1, nI_1 n, ⟨by omega, fun j hj => ?_, fun p hp hT => ?_⟩, ⟨by omega, fun r hr hT => ?_, fun j hj => ?_⟩, by rw [pk_us]; exact v1000⟩
    · by_cases e : j = n
      · subst e
        refine ⟨q, pk_us, hq, hpt1, ?_, ?_, ?_⟩
        · rw [pk_us]; exact hv
        · rw [pk_us]; omega
        · rw [pk_us]; omega
      · obtain ⟨p, k1, k2, k3, k4, k5, k6⟩ := hb.2.1 j (by omega)
        have ne : p ≠ q := fun z => by
          rw [z, h0, e1000] at k6
          omega
        refine ⟨p, by rw [pk_un e]; exact k1, k2, k3, ?_, ?_, ?_⟩
        · rw [pk_un ne]; exact k4
        · rw [pk_un ne]; exact k5
        · rw [pk_un ne]; exact k6
    · by_cases e : p = q
      · subst e
        exact ⟨n, by omega, pk_us⟩
      · rw [pk_un e] at hT
        obtain ⟨j, k1, k2⟩ := hb.2.2 p hp hT
        exact ⟨j, by omega, by rw [pk_un (show j ≠ n by omega)]; exact k2⟩
    · rw [pk_un (fun z => by rw [z] at hT; exact hT h0)]
    · rw [pk_un (show j ≠ n by omega)]
  · refine ⟨n, rfl, hb, ⟨Nat.le_refl _, fun _ _ _ => rfl, fun _ _ => rfl⟩, fun z => ?_⟩
    have hc := cU_upd z v1000 81 hq
    have hb1 := hb.1
    rcases hno with k | k | k | k
    · exact absurd k (Int32.not_lt.mpr (nn_nI (by omega)))
    · rw [show (81 : Int32) = nI 81 from rfl, nI_leI (by decide) (by omega)] at k
      omega
    · rw [nI_clamp (by omega)] at k
      exact k z
    · rw [show (81 : Int32) = nI 81 from rfl, nI_leI (by decide) (by omega)] at k
      omega
def nb1 (fl ac : Int64) (T : Nat → Int32) (p : Nat) : Prop := hrE (bfx fl) (bfx ac) p = true → ¬ T (p + 1) = 1000
def nb2 (fl ac : Int64) (T : Nat → Int32) (p : Nat) : Prop := 1 ≤ p % 9 → hrE (bfx fl) (bfx ac) (p - 1) = true → ¬ T (p - 1) = 1000
def nb3 (fl al : Int64) (T : Nat → Int32) (p : Nat) : Prop := hdE (bfx fl) (bfx al) p = true → ¬ T (p + 9) = 1000
def nb4 (fl al : Int64) (T : Nat → Int32) (p : Nat) : Prop := 9 ≤ p → hdE (bfx fl) (bfx al) (p - 9) = true → ¬ T (p - 9) = 1000
def prc (fl al ac : Int64) (T Q : Nat → Int32) (i : Nat) : Prop := ∀ j, j < i → ∀ p, p < 81 → Q j = nI p → nb1 fl ac T p ∧ nb2 fl ac T p ∧ nb3 fl al T p ∧ nb4 fl al T p
section BBF
variable {fl al ac : Int64} {fp : Nat} {T Q T' Q' : Nat → Int32} {n n' i p k : Nat} {c c' v : Int32}
theorem bX_k (h : bX T Q n T' Q' n') {r : Nat} (hr : r < 81) (hT : ¬ T r = 1000) : ¬ T' r = 1000 := by
  rw [h.2.1 r hr hT]
  exact hT
theorem nb1_m (h : bX T Q n T' Q' n') (hp : p < 81) (z : nb1 fl ac T p) : nb1 fl ac T' p := fun e => bX_k h (by have := hrE_8 e; omega) (z e)
theorem nb2_m (h : bX T Q n T' Q' n') (hp : p < 81) (z : nb2 fl ac T p) : nb2 fl ac T' p := fun e e2 => bX_k h (by omega) (z e e2)
theorem nb3_m (h : bX T Q n T' Q' n') (hp : p < 81) (z : nb3 fl al T p) : nb3 fl al T' p := fun e => bX_k h (by have := hdE_8 e; omega) (z e)
theorem nb4_m (h : bX T Q n T' Q' n') (hp : p < 81) (z : nb4 fl al T p) : nb4 fl al T' p := fun e e2 => bX_k h (by omega) (z e e2)
theorem prc_m (h : bX T Q n T' Q' n') (hi : i ≤ n) (z : prc fl al ac T Q i) : prc fl al ac T' Q' i := by
  intro j hj p hp e
  rw [h.2.2 j (by omega)] at e
  obtain ⟨a, b, c, d⟩ := z j hj p hp e
  exact ⟨nb1_m h hp a, nb2_m h hp b, nb3_m h hp c, nb4_m h hp d⟩
def bS (fl al ac : Int64) (fp : Nat) (T Q : Nat → Int32) (c : Int32) (i : Nat) : Prop := ∃ n, c = nI n ∧ i ≤ n ∧ bQ fl al ac fp T Q n ∧ prc fl al ac T Q i ∧ ¬ T fp = 1000
def bT (fl al ac : Int64) (fp k : Nat) (T Q : Nat → Int32) (c : Int32) (i p : Nat) (v : Int32) : Prop := ∃ n, c = nI n ∧ i < n ∧ bQ fl al ac fp T Q n ∧ Q i = nI p ∧ p < 81 ∧ prc fl al ac T Q i ∧ ¬ T fp = 1000 ∧ (v.toInt = zG fl al ac p - zG fl al ac fp ∧ -(i : Int) ≤ v.toInt ∧ v.toInt ≤ i) ∧ (1 ≤ k → nb1 fl ac T p) ∧ (2 ≤ k → nb2 fl ac T p) ∧ (3 ≤ k → nb3 fl al T p)
theorem bT_m {q : Nat} {v' : Int32} (hfp : fp < 81) (h : bT fl al ac fp k T Q c i p v) (hq : q < 81) (hpq : hpt (bfx fl) q = true) (e : v'.toInt = zG fl al ac q - zG fl al ac fp) (h1 : -((i : Int) + 1) ≤ v'.toInt) (h2 : v'.toInt ≤ (i : Int) + 1) (hr : rcR T Q c T' Q' c' (nI q) v') : bT fl al ac fp k T' Q' c' i p v ∧ ¬ T' q = 1000 := by
  obtain ⟨n, rfl, hi, hb, hQ, hp, hpr, h0, hv, n1, n2, n3⟩ := h
  obtain ⟨n', e', hb', hx, hk⟩ := bQ_s hb hi hq hpq e h1 h2 hr
  refine ⟨⟨n', e', by have := hx.1; omega, hb', by rw [hx.2.2 i hi]; exact hQ, hp, prc_m hx (by omega) hpr, bX_k hx hfp h0, hv, fun z => nb1_m hx hp (n1 z), fun z => nb2_m hx hp (n2 z), fun z => nb3_m hx hp (n3 z)⟩, hk⟩
theorem bT_i (h : bT fl al ac fp k T Q c i p v) : p < 81 ∧ i < 81 ∧ v.toInt = zG fl al ac p - zG fl al ac fp ∧ -(i : Int) ≤ v.toInt ∧ v.toInt ≤ i := by
  obtain ⟨n, -, hi, hb, -, hp, -, -, hv, -⟩ := h
  have := hb.1
  exact ⟨hp, by omega, hv⟩
theorem bT_1 (h : bT fl al ac fp 0 T Q c i p v) (z : nb1 fl ac T p) : bT fl al ac fp 1 T Q c i p v := by
  obtain ⟨n, a1, a2, a3, a4, a5, a6, a7, a8, -⟩ := h
  exact ⟨n, a1, a2, a3, a4, a5, a6, a7, a8, fun _ => z, fun y => absurd y (by decide), fun y => absurd y (by decide)⟩
theorem bT_2 (h : bT fl al ac fp 1 T Q c i p v) (z : nb2 fl ac T p) : bT fl al ac fp 2 T Q c i p v := by
  obtain ⟨n, a1, a2, a3, a4, a5, a6, a7, a8, a9, -⟩ := h
  exact ⟨n, a1, a2, a3, a4, a5, a6, a7, a8, fun _ => a9 (Nat.le_refl 1), fun _ => z, fun y => absurd y (by decide)⟩
theorem bT_3 (h : bT fl al ac fp 2 T Q c i p v) (z : nb3 fl al T p) : bT fl al ac fp 3 T Q c i p v := by
  obtain ⟨n, a1, a2, a3, a4, a5, a6, a7, a8, a9, a10, -⟩ := h
  exact ⟨n, a1, a2, a3, a4, a5, a6, a7, a8, fun _ => a9 (by decide), fun _ => a10 (Nat.le_refl 2), fun _ => z⟩
theorem bT_4 (h : bT fl al ac fp 3 T Q c i p v) (z : nb4 fl al T p) : bS fl al ac fp T Q c (i + 1) := by
  obtain ⟨n, a1, a2, a3, a4, a5, a6, a7, -, a9, a10, a11⟩ := h
  refine ⟨n, a1, a2, a3, fun j hj q hq e => ?_, a7⟩
  by_cases y : j = i
  · rw [y, a4] at e
    have := nInj81 a5 hq e
    subst this
    exact ⟨a9 (by decide), a10 (by decide), a11 (Nat.le_refl 3), z⟩
  · exact a6 j (by omega) q hq e
theorem bv_p {v y : Int32} {i : Nat} {s : Int} (hi : i < 81) (h1 : -(i : Int) ≤ v.toInt) (h2 : v.toInt ≤ i) (hy : y.toInt = s) (hs : s = 1 ∨ s = -1) : (v + y).toInt = v.toInt + s ∧ (v - y).toInt = v.toInt - s := by
  constructor
  · rw [Int32.toInt_add, hy]
    exact Int.bmod_eq_of_le (by omega) (by omega)
  · rw [Int32.toInt_sub, hy]
    exact Int.bmod_eq_of_le (by omega) (by omega)
theorem bs_1y (hH : hHt fl (bfx al) (bfx ac) (zH fl al ac)) (hfp : fp < 81) (h : bT fl al ac fp 0 T Q c i p v) (hg : g_flat fl ac (nI p - nI p / 9 * 9) (nI p / 9) = true) (hr : rcR T Q c T' Q' c' (9 * (nI p / 9) + (nI p - nI p / 9 * 9 + 1)) (v + g_rise (nI p - nI p / 9 * 9) (nI p / 9))) : bT fl al ac fp 1 T' Q' c' i p v := by
  obtain ⟨hp, hi, hv, v1, v2⟩ := bT_i h
  rw [gf_0 hp] at hg
  have x8 := hrE_8 hg
  rw [pe_1 ⟨p, hp⟩ x8] at hr
  have e := zG_ro hH x8 hp hg
  have s := hsg_pm (p % 9 + p / 9)
  have w := (bv_p hi v1 v2 (ri_0 ⟨p, hp⟩) s).1
  dsimp only at w
  obtain ⟨k1, k2⟩ := bT_m hfp h (show p + 1 < 81 by omega) (hrE_pt x8 hg).2 (by omega) (by omega) (by omega) hr
  exact bT_1 k1 (fun _ => k2)
theorem bs_1n (h : bT fl al ac fp 0 T Q c i p v) (hg : g_flat fl ac (nI p - nI p / 9 * 9) (nI p / 9) = false) : bT fl al ac fp 1 T Q c i p v := by
  obtain ⟨hp, -⟩ := bT_i h
  rw [gf_0 hp] at hg
  exact bT_1 h (fun z => by rw [hg] at z; exact absurd z (by decide))
theorem bs_2y (hH : hHt fl (bfx al) (bfx ac) (zH fl al ac)) (hfp : fp < 81) (h : bT fl al ac fp 1 T Q c i p v) (hg : g_flat fl ac (nI p - nI p / 9 * 9 - 1) (nI p / 9) = true) (hr : rcR T Q c T' Q' c' (9 * (nI p / 9) + (nI p - nI p / 9 * 9 - 1)) (v - g_rise (nI p - nI p / 9 * 9 - 1) (nI p / 9))) : bT fl al ac fp 2 T' Q' c' i p v := by
  obtain ⟨hp, hi, hv, v1, v2⟩ := bT_i h
  obtain ⟨x1, ho⟩ := gf_1 hp hg
  have x8 := hrE_8 ho
  rw [pe_2 ⟨p, hp⟩ x1] at hr
  have e := zG_ro hH x8 (by omega) ho
  rw [show p - 1 + 1 = p by omega] at e
  have s := hsg_pm ((p - 1) % 9 + (p - 1) / 9)
  have w := (bv_p hi v1 v2 (ri_1 ⟨p, hp⟩ x1) s).2
  dsimp only at w
  obtain ⟨k1, k2⟩ := bT_m hfp h (show p - 1 < 81 by omega) (hrE_pt x8 ho).1 (by omega) (by omega) (by omega) hr
  exact bT_2 k1 (fun _ _ => k2)
theorem bs_2n (h : bT fl al ac fp 1 T Q c i p v) (hg : g_flat fl ac (nI p - nI p / 9 * 9 - 1) (nI p / 9) = false) : bT fl al ac fp 2 T Q c i p v := by
  obtain ⟨hp, -⟩ := bT_i h
  exact bT_2 h (fun x1 z => by rw [gf_1n hp hg x1] at z; exact absurd z (by decide))
theorem bs_3y (hH : hHt fl (bfx al) (bfx ac) (zH fl al ac)) (hfp : fp < 81) (h : bT fl al ac fp 2 T Q c i p v) (hg : g_steep fl al (nI p - nI p / 9 * 9) (nI p / 9) = true) (hr : rcR T Q c T' Q' c' (9 * (nI p / 9 + 1) + (nI p - nI p / 9 * 9)) (v - g_rise (nI p - nI p / 9 * 9) (nI p / 9))) : bT fl al ac fp 3 T' Q' c' i p v := by
  obtain ⟨hp, hi, hv, v1, v2⟩ := bT_i h
  rw [gs_0 hp] at hg
  have y8 := hdE_8 hg
  rw [pe_3 ⟨p, hp⟩ y8] at hr
  have e := zG_do hH y8 hg
  have s := hsg_pm (p % 9 + p / 9)
  have w := (bv_p hi v1 v2 (ri_0 ⟨p, hp⟩) s).2
  dsimp only at w
  obtain ⟨k1, k2⟩ := bT_m hfp h (show p + 9 < 81 by omega) (hdE_pt hg).2 (by omega) (by omega) (by omega) hr
  exact bT_3 k1 (fun _ => k2)
theorem bs_3n (h : bT fl al ac fp 2 T Q c i p v) (hg : g_steep fl al (nI p - nI p / 9 * 9) (nI p / 9) = false) : bT fl al ac fp 3 T Q c i p v := by
  obtain ⟨hp, -⟩ := bT_i h
  rw [gs_0 hp] at hg
  exact bT_3 h (fun z => by rw [hg] at z; exact absurd z (by decide))
theorem bs_4y (hH : hHt fl (bfx al) (bfx ac) (zH fl al ac)) (hfp : fp < 81) (h : bT fl al ac fp 3 T Q c i p v) (hg : g_steep fl al (nI p - nI p / 9 * 9) (nI p / 9 - 1) = true) (hr : rcR T Q c T' Q' c' (9 * (nI p / 9 - 1) + (nI p - nI p / 9 * 9)) (v + g_rise (nI p - nI p / 9 * 9) (nI p / 9 - 1))) : bS fl al ac fp T' Q' c' (i + 1) := by
  obtain ⟨hp, hi, hv, v1, v2⟩ := bT_i h
  obtain ⟨x1, ho⟩ := gs_1 hp hg
  have y8 := hdE_8 ho
  rw [pe_4 ⟨p, hp⟩ x1] at hr
  have e := zG_do hH y8 ho
  rw [show p - 9 + 9 = p by omega] at e
  have s := hsg_pm ((p - 9) % 9 + (p - 9) / 9)
  have w := (bv_p hi v1 v2 (ri_2 ⟨p, hp⟩ x1) s).1
  dsimp only at w
  obtain ⟨k1, k2⟩ := bT_m hfp h (show p - 9 < 81 by omega) (hdE_pt ho).1 (by omega) (by omega) (by omega) hr
  exact bT_4 k1 (fun _ _ => k2)
theorem bs_4n (h : bT fl al ac fp 3 T Q c i p v) (hg : g_steep fl al (nI p - nI p / 9 * 9) (nI p / 9 - 1) = false) : bS fl al ac fp T Q c (i + 1) := by
  obtain ⟨hp, -⟩ := bT_i h
  exact bT_4 h (fun x1 z => by rw [gs_1n hp hg x1] at z; exact absurd z (by decide))
theorem bS_0 {f0 : Nat} {x : Int32} (h0 : isF0 fl f0) (hx : x = nI (hTL f0)) (hT : ∀ p, p < 81 → T p = 1000) (hr : rcR T Q 0 T' Q' c' x 0) : bS fl al ac (hTL f0) T' Q' c' 0 := by
  have l := hTL_lt h0.1
  rw [hx] at hr
  rcases hr with ⟨-, k0, -, rfl, rfl, rfl⟩ | ⟨hno, -⟩
  · rw [nI_clamp (show hTL f0 < 2 ^ 31 by omega)] at k0 ⊢
    have hc := cU_upd (v := 0) k0 (by decide) 81 (by omega)
    rw [cU_full 81 hT] at hc
    refine ⟨1, rfl, by decide, ⟨by omega, fun j hj => ?_, fun p hp hq => ?_⟩, fun j hj => absurd hj (Nat.not_lt_zero j), by rw [pk_us]; decide⟩
    · have : j = 0 := by omega
      subst this
      refine ⟨hTL f0, pk_us, by omega, hTL_pt h0.1 h0.2.1, ?_, ?_, ?_⟩
      · rw [pk_us, Int.sub_self]; rfl
      · rw [pk_us]; decide
      · rw [pk_us]; decide
    · by_cases e : p = hTL f0
      · subst e
        exact ⟨0, by decide, pk_us⟩
      · rw [pk_un e] at hq
        exact absurd (hT p hp) hq
  · rcases hno with k | k | k | k
    · exact absurd k (Int32.not_lt.mpr (nn_nI (by omega)))
    · rw [show (81 : Int32) = nI 81 from rfl, nI_leI (by decide) (by omega)] at k
      omega
    · rw [nI_clamp (by omega)] at k
      exact absurd (hT _ (by omega)) k
    · exact absurd k (by decide)
theorem bS_t (hi : i < 81) (h : bS fl al ac fp T Q c i) (q : ¬ c ≤ nI i) : ∃ p, Q (nI i).toNatClampNeg = nI p ∧ bT fl al ac fp 0 T Q c i p (T (nI p).toNatClampNeg) := by
  obtain ⟨n, rfl, hin, hb, hpr, h0⟩ := h
  have hn : n ≤ 81 := by have := hb.1; omega
  rw [nI_leI (by omega) (by omega)] at q
  obtain ⟨p, k1, k2, k3, k4, k5, k6⟩ := hb.2.1 i (by omega)
  refine ⟨p, by rw [nI_clamp (by omega)]; exact k1, n, rfl, by omega, hb, k1, k2, hpr, h0, by rw [nI_clamp (by omega)]; exact ⟨k4, k5, k6⟩, fun y => absurd y (by decide), fun y => absurd y (by decide), fun y => absurd y (by decide)⟩
theorem bS_e {f0 : Nat} (hl : LY (bfx fl) (bfx al) (bfx ac)) (hc : aPc fl = 1) (hf : isF0 fl f0) (hi : i ≤ 81) (h : bS fl al ac (hTL f0) T Q c i) (q : c ≤ nI i ∨ i = 81) : hVal fl al ac f0 1000 T := by
  obtain ⟨n, rfl, hin, hb, hpr, h0⟩ := h
  have hn : n ≤ 81 := by have := hb.1; omega
  have e : n = i := by
    rcases q with q | q
    · rw [nI_leI (by omega) (by omega)] at q
      omega
    · omega
  subst e
  have ent : ∀ p, p < 81 → ¬ T p = 1000 → (nb1 fl ac T p ∧ nb2 fl ac T p ∧ nb3 fl al T p ∧ nb4 fl al T p) ∧ hpt (bfx fl) p = true ∧ (T p).toInt = zG fl al ac p - zG fl al ac (hTL f0) := by
    intro p hp hT
    obtain ⟨j, hj, ej⟩ := hb.2.2 p hp hT
    obtain ⟨p', k1, k2, k3, k4, -⟩ := hb.2.1 j hj
    have : p = p' := nInj81 hp k2 (ej.symm.trans k1)
    subst this
    exact ⟨hpr j hj p hp ej, k3, k4⟩
  have K : hclK (bfx fl) (bfx al) (bfx ac) (fun p => ¬ T p = 1000) := by
    refine ⟨fun p hp h1 h2 => ⟨fun z => (ent p hp z).1.1 h2, fun z => ?_⟩, fun p hp h1 h2 => ⟨fun z => (ent p hp z).1.2.2.1 h2, fun z => ?_⟩⟩
    · have k := (ent (p + 1) (by omega) z).1.2.1 (by omega) (by rw [Nat.add_sub_cancel]; exact h2)
      rw [Nat.add_sub_cancel] at k
      exact k
    · have k := (ent (p + 9) (by omega) z).1.2.2.2 (by omega) (by rw [Nat.add_sub_cancel]; exact h2)
      rw [Nat.add_sub_cancel] at k
      exact k
  refine fun p hp => ⟨fun hpt1 => ?_, fun hpt0 => ?_⟩
  · exact (ent p hp (hK_pt hl K hc hf.2.1 hf.2.2 h0 hp hpt1)).2.2
  · by_cases y : T p = 1000
    · exact y
    · rw [(ent p hp y).2.1] at hpt0
      exact absurd hpt0 (by decide)
end BBF
theorem fpc_e {fl : Int64} {i f0 : Nat} (h0 : isF0 fl f0) (hi : i ≤ f0) (q : i = 63 ∨ g_holds fl (nI i) = true) : (9 : Int32) * (nI i / 8) + (nI i - nI i / 8 * 8) = nI (hTL f0) := by
  have l := h0.1
  have e : i = f0 := by
    rcases q with q | q
    · omega
    · rw [hol_t fl (show i < 64 by omega)] at q
      rcases Nat.lt_or_ge i f0 with z | z
      · rw [h0.2.2 i z] at q; exact absurd q (by decide)
      · omega
  subst e
  exact mp_t ⟨i, l⟩
theorem fpc_s {fl : Int64} {i f0 : Nat} (h0 : isF0 fl f0) (hi : i ≤ f0) (hi2 : i < 63) (q : g_holds fl (nI i) = false) : i + 1 ≤ f0 := by
  rw [hol_t fl (show i < 64 by omega)] at q
  rcases Nat.lt_or_ge i f0 with z | z
  · exact z
  · have e : i = f0 := by omega
    rw [e, h0.2.1] at q
    exact absurd q (by decide)
theorem ap_finC {J6 fl : Int64} {S : List Int32} {na nb : Nat} {a b : Int32} {o t : Nat → Int32} (eJ : J6 = fl) (ea : a = nI na) (eb : b = nI nb) (za : zIn (bfx fl) na) (zb : zIn (bfx fl) nb) (h0 : aAg fl S a b = 0) (ho : hVal J6 (zLy fl na).1 (zLy fl na).2 (zF0 J6) 1000 o) (ht : hVal J6 (zLy fl nb).1 (zLy fl nb).2 (zF0 J6) 1000 t) : apS o t 81 / 4 = aApa fl S a b := by
  subst eJ
  subst ea
  subst eb
  rw [aApa, if_pos h0, nI_clamp (zIn_lt za), nI_clamp (zIn_lt zb)]
  exact apv_eq ho ht
theorem ap_k {fl : Int64} {S : List Int32} {a b x : Int32} (h : x = aAg fl S a b) (hx : ¬ x = 0) : x = aApa fl S a b := by
  rw [aApa, ← h, if_neg hx]
theorem fill_81 {f : Nat → Int32} {i : Nat} {x : Int32} (hi : i < 81) (h : ∀ p, p < i → f p = x) : ∀ p, p < i + 1 → upd f (nI i).toNatClampNeg x p = x := by
  rw [nI_clamp (Nat.lt_trans hi (by decide))]
  intro p hp
  by_cases e : p = i
  · rw [e, pk_us]
  · rw [pk_un e]
    exact h p (by omega)
theorem bS_bd {fl al ac : Int64} {T Q : Nat → Int32} {i f0 : Nat} {c : Int32} (hl : LY (bfx fl) (bfx al) (bfx ac)) (hc : aPc fl = 1) (hf : isF0 fl f0) (hi : i ≤ 81) (h : bS fl al ac (hTL f0) T Q c i) (q : c ≤ nI i ∨ i = 81) : ∀ r, r < 81 → hpt (bfx fl) r = true → -100 ≤ (T r).toInt ∧ (T r).toInt ≤ 100 := by
  have hv := bS_e hl hc hf hi h q
  obtain ⟨n, rfl, hin, hb, hpr, h0⟩ := h
  have hn : n ≤ 81 := by have := hb.1; omega
  have e : n = i := by
    rcases q with q | q
    · rw [nI_leI (by omega) (by omega)] at q
      omega
    · omega
  subst e
  have ent : ∀ p, p < 81 → ¬ T p = 1000 → (nb1 fl ac T p ∧ nb2 fl ac T p ∧ nb3 fl al T p ∧ nb4 fl al T p) ∧ -100 ≤ (T p).toInt ∧ (T p).toInt ≤ 100 := by
    intro p hp hT
    obtain ⟨j, hj, ej⟩ := hb.2.2 p hp hT
    obtain ⟨p', k1, k2, k3, k4, k5, k6⟩ := hb.2.1 j hj
    have : p = p' := nInj81 hp k2 (ej.symm.trans k1)
    subst this
    exact ⟨hpr j hj p hp ej, by omega, by omega⟩
  have K : hclK (bfx fl) (bfx al) (bfx ac) (fun p => ¬ T p = 1000) := by
    refine ⟨fun p hp h1 h2 => ⟨fun z => (ent p hp z).1.1 h2, fun z => ?_⟩, fun p hp h1 h2 => ⟨fun z => (ent p hp z).1.2.2.1 h2, fun z => ?_⟩⟩
    · have k := (ent (p + 1) (by omega) z).1.2.1 (by omega) (by rw [Nat.add_sub_cancel]; exact h2)
      rw [Nat.add_sub_cancel] at k
      exact k
    · have k := (ent (p + 9) (by omega) z).1.2.2.2 (by omega) (by rw [Nat.add_sub_cancel]; exact h2)
      rw [Nat.add_sub_cancel] at k
      exact k
  exact fun r hr hp => (ent r hr (hK_pt hl K hc hf.2.1 hf.2.2 h0 hr hp)).2
