/-! ===== drawn numbers ===== -/
def uI (x : Int32) : Nat := x.toBitVec.toNat
theorem uI_lt (x : Int32) : uI x < 4294967296 := x.toBitVec.isLt
theorem uI_fit (n : Nat) (x : Int32) : uI (fit (n + 1) x) = (1103515245 * uI (fit n x) + 12345) % 4294967296 := by
  show (1103515245 * fit n x + 12345 : Int32).toBitVec.toNat = _
  rw [Int32.toBitVec_add, BitVec.toNat_add, Int32.toBitVec_mul, BitVec.toNat_mul]
  have e1 : (1103515245 : Int32).toBitVec.toNat = 1103515245 := by decide
  have e2 : (12345 : Int32).toBitVec.toNat = 12345 := by decide
  rw [e1, e2]
  show ((1103515245 * uI (fit n x)) % 4294967296 + 12345) % 4294967296 = _
  rw [Nat.add_mod, Nat.mod_mod, ← Nat.add_mod]
/-- the n-fold of the step: a factor and what is added -/
def apw : Nat → Nat → Nat × Nat
  | 0, _ => (1, 0)
  | f + 1, n => if n = 0 then (1, 0) else
    match apw f (n / 2) with
    | (a, c) => if n % 2 = 0 then (a * a % 4294967296, (a * c + c) % 4294967296) else (1103515245 * (a * a % 4294967296) % 4294967296, (1103515245 * ((a * c + c) % 4294967296) + 12345) % 4294967296)
def apOk (n : Nat) (q : Nat × Nat) : Prop := ∀ x, uI (fit n x) = (q.1 * uI x + q.2) % 4294967296
theorem ap_ar1 (a c u : Nat) : (a * ((a * u + c) % 4294967296) + c) % 4294967296 = ((a * a % 4294967296) * u + (a * c + c) % 4294967296) % 4294967296 := by
  have e1 : (a * ((a * u + c) % 4294967296) + c) % 4294967296 = (a * (a * u + c) + c) % 4294967296 := by
    rw [Nat.add_mod, Nat.mul_mod, Nat.mod_mod, ← Nat.mul_mod, ← Nat.add_mod]
  have e2 : ((a * a % 4294967296) * u + (a * c + c) % 4294967296) % 4294967296 = (a * a * u + (a * c + c)) % 4294967296 := by
    rw [Nat.add_mod, Nat.mul_mod, Nat.mod_mod, ← Nat.mul_mod, Nat.mod_mod, ← Nat.add_mod]
  rw [e1, e2, Nat.mul_add, ← Nat.mul_assoc, Nat.add_assoc]
theorem ap_ar2 (a c u : Nat) : (1103515245 * ((a * u + c) % 4294967296) + 12345) % 4294967296 = ((1103515245 * a % 4294967296) * u + (1103515245 * c + 12345) % 4294967296) % 4294967296 := by
  have e1 : (1103515245 * ((a * u + c) % 4294967296) + 12345) % 4294967296 = (1103515245 * (a * u + c) + 12345) % 4294967296 := by
    rw [Nat.add_mod, Nat.mul_mod, Nat.mod_mod, ← Nat.mul_mod, ← Nat.add_mod]
  have e2 : ((1103515245 * a % 4294967296) * u + (1103515245 * c + 12345) % 4294967296) % 4294967296 = (1103515245 * a * u + (1103515245 * c + 12345)) % 4294967296 := by
    rw [Nat.add_mod, Nat.mul_mod, Nat.mod_mod, ← Nat.mul_mod, Nat.mod_mod, ← Nat.add_mod]
  rw [e1, e2, Nat.mul_add, ← Nat.mul_assoc, Nat.add_assoc]
theorem apOk_0 : apOk 0 (1, 0) := fun x => by
  show uI x = (1 * uI x + 0) % 4294967296
  rw [Nat.one_mul, Nat.add_zero, Nat.mod_eq_of_lt (uI_lt x)]
theorem apOk_d {n a c : Nat} (h : apOk n (a, c)) : apOk (n + n) (a * a % 4294967296, (a * c + c) % 4294967296) := fun x => by
  rw [fit_add, h, h]
  exact ap_ar1 a c (uI x)
theorem apOk_s {n a c : Nat} (h : apOk n (a, c)) : apOk (n + 1) (1103515245 * a % 4294967296, (1103515245 * c + 12345) % 4294967296) := fun x => by
  rw [uI_fit, h]
  exact ap_ar2 a c (uI x)
theorem apw_ok : ∀ (f n : Nat), n < 2 ^ f → apOk n (apw f n)
  | 0, n, h => by
    have e : n = 0 := by
      have : 2 ^ 0 = 1 := rfl
      omega
    subst e
    exact apOk_0
  | f + 1, n, h => by
    unfold apw
    by_cases h0 : n = 0
    · rw [if_pos h0, h0]
      exact apOk_0
    · rw [if_neg h0]
      have ih := apw_ok f (n / 2) (by rw [Nat.pow_succ] at h; omega)
      generalize apw f (n / 2) = q at ih ⊢
      obtain ⟨a, c⟩ := q
      dsimp only
      have d := apOk_d ih
      by_cases h2 : n % 2 = 0
      · rw [if_pos h2]
        rw [show n / 2 + n / 2 = n by omega] at d
        exact d
      · rw [if_neg h2]
        have s := apOk_s d
        rw [show n / 2 + n / 2 + 1 = n by omega] at s
        exact s
/-- those y of an interval whose image is in the upper half -/
def ivP (m c lo hi : Nat) : Nat → Nat → List (Nat × Nat) → List (Nat × Nat)
  | _, 0, acc => acc
  | q, n + 1, acc => ivP m c lo hi (q + 1) n
      (let l := max lo ((q * 4294967296 + 2147483648 - c + (m - 1)) / m)
       let u := min hi ((q * 4294967296 + 4294967295 - c) / m)
       if Nat.ble l u then (l, u) :: acc else acc)
def ivN (m c lo hi : Nat) : Nat → Nat → List (Nat × Nat) → List (Nat × Nat)
  | _, 0, acc => acc
  | q, n + 1, acc => ivN m c lo hi (q + 1) n
      (let l := max lo (4294967296 - (q * 4294967296 + 4294967295 - c) / m)
       let u := min hi (4294967296 - (q * 4294967296 + 2147483648 - c + (m - 1)) / m)
       if Nat.ble l u then (l, u) :: acc else acc)
def ivS (neg : Bool) (m c : Nat) : List (Nat × Nat) → List (Nat × Nat) → List (Nat × Nat)
  | [], acc => acc
  | (lo, hi) :: L, acc => ivS neg m c L (match neg with
      | false => ivP m c lo hi ((m * lo + c) / 4294967296) ((m * hi + c) / 4294967296 + 1 - (m * lo + c) / 4294967296) acc
      | true => ivN m c lo hi ((m * (4294967296 - hi) + c) / 4294967296) ((m * (4294967296 - lo) + c) / 4294967296 + 1 - (m * (4294967296 - hi) + c) / 4294967296) acc)
def inL (y : Nat) (L : List (Nat × Nat)) : Prop := ∃ p, p ∈ L ∧ p.1 ≤ y ∧ y ≤ p.2
theorem inL_c {y l u : Nat} {L : List (Nat × Nat)} (h : inL y L) : inL y (if Nat.ble l u then (l, u) :: L else L) := by
  split
  · obtain ⟨p, hp, h1, h2⟩ := h
    exact ⟨p, List.mem_cons_of_mem _ hp, h1, h2⟩
  · exact h
theorem inL_n {y l u : Nat} {L : List (Nat × Nat)} (h1 : l ≤ y) (h2 : y ≤ u) : inL y (if Nat.ble l u then (l, u) :: L else L) := by
  rw [if_pos (Nat.ble_eq.mpr (Nat.le_trans h1 h2))]
  exact ⟨(l, u), List.mem_cons_self, h1, h2⟩
theorem ivP_acc {m c lo hi y : Nat} : ∀ (n q : Nat) (acc : List (Nat × Nat)), inL y acc → inL y (ivP m c lo hi q n acc)
  | 0, _, _, h => h
  | n + 1, q, acc, h => ivP_acc n (q + 1) _ (inL_c h)
theorem ivN_acc {m c lo hi y : Nat} : ∀ (n q : Nat) (acc : List (Nat × Nat)), inL y acc → inL y (ivN m c lo hi q n acc)
  | 0, _, _, h => h
  | n + 1, q, acc, h => ivN_acc n (q + 1) _ (inL_c h)
theorem cdiv_le {a m y : Nat} (hm : 0 < m) (h : a ≤ m * y) : (a + (m - 1)) / m ≤ y := by
  have h1 : a + (m - 1) < m * (y + 1) := by rw [Nat.mul_add, Nat.mul_one]; omega
  have h2 := (Nat.div_lt_iff_lt_mul hm).mpr (show a + (m - 1) < (y + 1) * m by rw [Nat.mul_comm]; exact h1)
  omega
theorem le_fdiv {a m y : Nat} (hm : 0 < m) (h : m * y ≤ a) : y ≤ a / m := (Nat.le_div_iff_mul_le hm).mpr (by rw [Nat.mul_comm]; exact h)
theorem up_iff {z q : Nat} (hq : z / 4294967296 = q) (h : ¬ z % 4294967296 / 2147483648 = 0) : q * 4294967296 + 2147483648 ≤ z ∧ z ≤ q * 4294967296 + 4294967295 := by omega
theorem ivP_in {m c lo hi y Q : Nat} (hm : 0 < m) (hlo : lo ≤ y) (hhi : y ≤ hi) (hQ : (m * y + c) / 4294967296 = Q) (h : ¬ (m * y + c) % 4294967296 / 2147483648 = 0) : ∀ (n q : Nat) (acc : List (Nat × Nat)), q ≤ Q → Q < q + n → inL y (ivP m c lo hi q n acc)
  | 0, q, acc, h1, h2 => absurd h2 (by omega)
  | n + 1, q, acc, h1, h2 => by
    show inL y (ivP m c lo hi (q + 1) n _)
    by_cases e : q = Q
    · refine ivP_acc n (q + 1) _ ?_
      subst e
      obtain ⟨k1, k2⟩ := up_iff hQ h
      refine inL_n (Nat.max_le.mpr ⟨hlo, cdiv_le hm (by omega)⟩) (Nat.le_min.mpr ⟨hhi, le_fdiv hm (by omega)⟩)
    · exact ivP_in hm hlo hhi hQ h n (q + 1) _ (by omega) (by omega)
theorem ivN_in {m c lo hi y Q : Nat} (hm : 0 < m) (hlo : lo ≤ y) (hhi : y ≤ hi) (hy : y ≤ 4294967296) (hQ : (m * (4294967296 - y) + c) / 4294967296 = Q) (h : ¬ (m * (4294967296 - y) + c) % 4294967296 / 2147483648 = 0) : ∀ (n q : Nat) (acc : List (Nat × Nat)), q ≤ Q → Q < q + n → inL y (ivN m c lo hi q n acc)
  | 0, q, acc, h1, h2 => absurd h2 (by omega)
  | n + 1, q, acc, h1, h2 => by
    show inL y (ivN m c lo hi (q + 1) n _)
    by_cases e : q = Q
    · refine ivN_acc n (q + 1) _ ?_
      subst e
      obtain ⟨k1, k2⟩ := up_iff hQ h
      have a1 := cdiv_le (a := (m * (4294967296 - y) + c) / 4294967296 * 4294967296 + 2147483648 - c) (y := 4294967296 - y) hm (by omega)
      have a2 := le_fdiv (a := (m * (4294967296 - y) + c) / 4294967296 * 4294967296 + 4294967295 - c) (y := 4294967296 - y) hm (by omega)
      rw [hQ] at a1 a2
      exact inL_n (Nat.max_le.mpr ⟨hlo, by omega⟩) (Nat.le_min.mpr ⟨hhi, by omega⟩)
    · exact ivN_in hm hlo hhi hy hQ h n (q + 1) _ (by omega) (by omega)
theorem ivS_acc {neg : Bool} {m c y : Nat} : ∀ (L acc : List (Nat × Nat)), inL y acc → inL y (ivS neg m c L acc)
  | [], _, h => h
  | (lo, hi) :: L, acc, h => by
    refine ivS_acc L _ ?_
    cases neg with
    | false => exact ivP_acc _ _ _ h
    | true => exact ivN_acc _ _ _ h
/-- the image of y under a factor and what is added -/
def imv (neg : Bool) (m c y : Nat) : Nat := match neg with
  | false => m * y + c
  | true => m * (4294967296 - y) + c
theorem ivS_in {neg : Bool} {m c y : Nat} (hm : 0 < m) (hy : y ≤ 4294967296) (h : ¬ imv neg m c y % 4294967296 / 2147483648 = 0) : ∀ (L acc : List (Nat × Nat)), inL y L → inL y (ivS neg m c L acc)
  | [], acc, hL => by
    obtain ⟨p, hp, -⟩ := hL
    exact absurd hp List.not_mem_nil
  | (lo, hi) :: L, acc, hL => by
    obtain ⟨p, hp, h1, h2⟩ := hL
    rcases List.mem_cons.mp hp with rfl | hp
    · refine ivS_acc L _ ?_
      cases neg with
      | false =>
        have d1 : (m * lo + c) / 4294967296 ≤ (m * y + c) / 4294967296 := Nat.div_le_div_right (Nat.add_le_add_right (Nat.mul_le_mul_left m h1) c)
        have d2 : (m * y + c) / 4294967296 ≤ (m * hi + c) / 4294967296 := Nat.div_le_div_right (Nat.add_le_add_right (Nat.mul_le_mul_left m h2) c)
        exact ivP_in hm h1 h2 rfl h _ _ _ d1 (by omega)
      | true =>
        have d1 : (m * (4294967296 - hi) + c) / 4294967296 ≤ (m * (4294967296 - y) + c) / 4294967296 := Nat.div_le_div_right (Nat.add_le_add_right (Nat.mul_le_mul_left m (Nat.sub_le_sub_left h2 _)) c)
        have d2 : (m * (4294967296 - y) + c) / 4294967296 ≤ (m * (4294967296 - lo) + c) / 4294967296 := Nat.div_le_div_right (Nat.add_le_add_right (Nat.mul_le_mul_left m (Nat.sub_le_sub_left h1 _)) c)
        exact ivN_in hm h1 h2 hy rfl h _ _ _ d1 (by omega)
    · exact ivS_in hm hy h L _ ⟨p, hp, h1, h2⟩
/-- a row of tries (t, sign, factor, added): each is the step's h t fold, and no y is always in the upper half -/
def ceA (h : Nat) : List (Nat × Bool × Nat × Nat) → Bool
  | [] => true
  | (t, neg, m, c) :: L => Nat.blt t 1000000 && (Nat.blt 0 m && (Nat.ble m 4294967296 && ((match apw 26 (h * t) with | (a, k) => Nat.beq a (match neg with | false => m | true => 4294967296 - m) && Nat.beq k c) && ceA h L)))
def ceB : List (Nat × Bool × Nat × Nat) → List (Nat × Nat) → List (Nat × Nat)
  | [], iv => iv
  | (_, neg, m, c) :: L, iv => ceB L (ivS neg m c iv [])
theorem im_ar {m w y z c : Nat} (hz : m + w = y + z) : (w * y + c) % (m + w) = (m * z + c) % (m + w) := by
  have e : w * y + c + (m + w) * m = m * z + c + (m + w) * y := by
    have e1 : (m + w) * m = m * y + m * z := by rw [Nat.mul_comm, hz, Nat.mul_add]
    have e2 : (m + w) * y = m * y + w * y := Nat.add_mul _ _ _
    rw [e1, e2]
    omega
  have e3 := congrArg (· % (m + w)) e
  rw [Nat.add_mul_mod_self_left, Nat.add_mul_mod_self_left] at e3
  exact e3
theorem im_mod {neg : Bool} {a m c y : Nat} (ha : a = (match neg with | false => m | true => 4294967296 - m)) (hm : m ≤ 4294967296) (hy : y ≤ 4294967296) : (a * y + c) % 4294967296 = imv neg m c y % 4294967296 := by
  cases neg with
  | false => rw [ha]; rfl
  | true =>
    rw [ha]
    show ((4294967296 - m) * y + c) % 4294967296 = (m * (4294967296 - y) + c) % 4294967296
    have k := im_ar (m := m) (w := 4294967296 - m) (y := y) (z := 4294967296 - y) (c := c) (by omega)
    rw [show m + (4294967296 - m) = 4294967296 by omega] at k
    exact k
theorem ce_in {h y : Nat} (hh : h < 64) (hy : y ≤ 4294967296) : ∀ (L : List (Nat × Bool × Nat × Nat)) (iv : List (Nat × Nat)), ceA h L = true → (∀ t, t < 1000000 → ∀ x, uI x = y → ¬ uI (fit (h * t) x) / 2147483648 = 0) → (∃ x, uI x = y) → inL y iv → inL y (ceB L iv)
  | [], iv, _, _, _, hi => hi
  | (t, neg, m, c) :: L, iv, hc, hall, hx, hi => by
    unfold ceA at hc
    have hp := apw_ok 26 (h * t)
    generalize apw 26 (h * t) = q at hp hc
    obtain ⟨a, k⟩ := q
    dsimp only at hc
    rw [Bool.and_eq_true, Bool.and_eq_true, Bool.and_eq_true, Bool.and_eq_true, Bool.and_eq_true] at hc
    obtain ⟨h1, h2, h3, ⟨h4, h5⟩, h6⟩ := hc
    have t1 := Nat.blt_eq.mp h1
    have m0 := Nat.blt_eq.mp h2
    have mM := Nat.ble_eq.mp h3
    have ea := Nat.eq_of_beq_eq_true h4
    have ek := Nat.eq_of_beq_eq_true h5
    show inL y (ceB L (ivS neg m c iv []))
    refine ce_in hh hy L _ h6 hall hx (ivS_in m0 hy ?_ iv [] hi)
    obtain ⟨x, rfl⟩ := hx
    have z := hall t t1 x rfl
    have hb : h * t < 2 ^ 26 := by
      have : h * t ≤ 63 * t := Nat.mul_le_mul_right t (by omega)
      have : (2 : Nat) ^ 26 = 67108864 := rfl
      omega
    rw [hp hb x, ek] at z
    dsimp only at z
    rw [im_mod ea mM hy] at z
    exact z
