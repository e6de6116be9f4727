theorem uI_inj {x y : Int32} (h : uI x = uI y) : x = y := Int32.toBitVec_inj.mp (BitVec.eq_of_toNat_eq h)
theorem ce_no {h : Nat} (hh : h < 64) {L : List (Nat × Bool × Nat × Nat)} (hA : ceA h L = true) (hBd : (ceB L [(2147483648, 4294967295)]).isEmpty = true) (x : Int32) : ∃ t, t < 1000000 ∧ tb (fit (h * t + 1) x) = 0 := by
  apply Classical.byContradiction
  intro hno
  have hall : ∀ t, t < 1000000 → ¬ tb (fit (h * t + 1) x) = 0 := fun t ht z => hno ⟨t, ht, z⟩
  have hy : uI (fit 1 x) ≤ 4294967296 := Nat.le_of_lt (uI_lt _)
  have h0 := hall 0 (by decide)
  rw [Nat.mul_zero, Nat.zero_add] at h0
  have hu : 2147483648 ≤ uI (fit 1 x) := by
    have : ¬ uI (fit 1 x) / 2147483648 = 0 := h0
    omega
  have hl := uI_lt (fit 1 x)
  have z := ce_in hh hy L [(2147483648, 4294967295)] hA (fun t ht x' hx' => by
    rw [uI_inj hx', ← fit_add]
    exact hall t ht) ⟨_, rfl⟩ ⟨_, List.mem_singleton.mpr rfl, hu, by show _ ≤ 4294967295; omega⟩
  obtain ⟨p, hp, -⟩ := z
  rw [List.isEmpty_iff.mp hBd] at hp
  exact absurd hp List.not_mem_nil
theorem lcg_b {h : Nat} (hle : h ≤ 29) (x : Int32) : ∃ t, t < 1000000 ∧ (h = 0 ∨ tb (fit (h * t + 1) x) = 0) := by
  match h, hle with
  | 0, _ => exact ⟨0, by decide, Or.inl rfl⟩
  | 1, _ => obtain ⟨t, h1, h2⟩ := ce_no (by decide) ceA_1 ceB_1 x; exact ⟨t, h1, Or.inr h2⟩
  | 2, _ => obtain ⟨t, h1, h2⟩ := ce_no (by decide) ceA_2 ceB_2 x; exact ⟨t, h1, Or.inr h2⟩
  | 3, _ => obtain ⟨t, h1, h2⟩ := ce_no (by decide) ceA_3 ceB_3 x; exact ⟨t, h1, Or.inr h2⟩
  | 4, _ => obtain ⟨t, h1, h2⟩ := ce_no (by decide) ceA_4 ceB_4 x; exact ⟨t, h1, Or.inr h2⟩
  | 5, _ => obtain ⟨t, h1, h2⟩ := ce_no (by decide) ceA_5 ceB_5 x; exact ⟨t, h1, Or.inr h2⟩
  | 6, _ => obtain ⟨t, h1, h2⟩ := ce_no (by decide) ceA_6 ceB_6 x; exact ⟨t, h1, Or.inr h2⟩
  | 7, _ => obtain ⟨t, h1, h2⟩ := ce_no (by decide) ceA_7 ceB_7 x; exact ⟨t, h1, Or.inr h2⟩
  | 8, _ => obtain ⟨t, h1, h2⟩ := ce_no (by decide) ceA_8 ceB_8 x; exact ⟨t, h1, Or.inr h2⟩
  | 9, _ => obtain ⟨t, h1, h2⟩ := ce_no (by decide) ceA_9 ceB_9 x; exact ⟨t, h1, Or.inr h2⟩
  | 10, _ => obtain ⟨t, h1, h2⟩ := ce_no (by decide) ceA_10 ceB_10 x; exact ⟨t, h1, Or.inr h2⟩
  | 11, _ => obtain ⟨t, h1, h2⟩ := ce_no (by decide) ceA_11 ceB_11 x; exact ⟨t, h1, Or.inr h2⟩
  | 12, _ => obtain ⟨t, h1, h2⟩ := ce_no (by decide) ceA_12 ceB_12 x; exact ⟨t, h1, Or.inr h2⟩
  | 13, _ => obtain ⟨t, h1, h2⟩ := ce_no (by decide) ceA_13 ceB_13 x; exact ⟨t, h1, Or.inr h2⟩
  | 14, _ => obtain ⟨t, h1, h2⟩ := ce_no (by decide) ceA_14 ceB_14 x; exact ⟨t, h1, Or.inr h2⟩
  | 15, _ => obtain ⟨t, h1, h2⟩ := ce_no (by decide) ceA_15 ceB_15 x; exact ⟨t, h1, Or.inr h2⟩
  | 16, _ => obtain ⟨t, h1, h2⟩ := ce_no (by decide) ceA_16 ceB_16 x; exact ⟨t, h1, Or.inr h2⟩
  | 17, _ => obtain ⟨t, h1, h2⟩ := ce_no (by decide) ceA_17 ceB_17 x; exact ⟨t, h1, Or.inr h2⟩
  | 18, _ => obtain ⟨t, h1, h2⟩ := ce_no (by decide) ceA_18 ceB_18 x; exact ⟨t, h1, Or.inr h2⟩
  | 19, _ => obtain ⟨t, h1, h2⟩ := ce_no (by decide) ceA_19 ceB_19 x; exact ⟨t, h1, Or.inr h2⟩
  | 20, _ => obtain ⟨t, h1, h2⟩ := ce_no (by decide) ceA_20 ceB_20 x; exact ⟨t, h1, Or.inr h2⟩
  | 21, _ => obtain ⟨t, h1, h2⟩ := ce_no (by decide) ceA_21 ceB_21 x; exact ⟨t, h1, Or.inr h2⟩
  | 22, _ => obtain ⟨t, h1, h2⟩ := ce_no (by decide) ceA_22 ceB_22 x; exact ⟨t, h1, Or.inr h2⟩
  | 23, _ => obtain ⟨t, h1, h2⟩ := ce_no (by decide) ceA_23 ceB_23 x; exact ⟨t, h1, Or.inr h2⟩
  | 24, _ => obtain ⟨t, h1, h2⟩ := ce_no (by decide) ceA_24 ceB_24 x; exact ⟨t, h1, Or.inr h2⟩
  | 25, _ => obtain ⟨t, h1, h2⟩ := ce_no (by decide) ceA_25 ceB_25 x; exact ⟨t, h1, Or.inr h2⟩
  | 26, _ => obtain ⟨t, h1, h2⟩ := ce_no (by decide) ceA_26 ceB_26 x; exact ⟨t, h1, Or.inr h2⟩
  | 27, _ => obtain ⟨t, h1, h2⟩ := ce_no (by decide) ceA_27 ceB_27 x; exact ⟨t, h1, Or.inr h2⟩
  | 28, _ => obtain ⟨t, h1, h2⟩ := ce_no (by decide) ceA_28 ceB_28 x; exact ⟨t, h1, Or.inr h2⟩
  | 29, _ => obtain ⟨t, h1, h2⟩ := ce_no (by decide) ceA_29 ceB_29 x; exact ⟨t, h1, Or.inr h2⟩
  | n + 30, hh => exact absurd hh (by omega)
/-! the number of a try, the tries -/
def gn : Nat → Int32 → Nat
  | 0, _ => 0
  | k + 1, x => 2 * gn k x + tb (fit (k + 1) x)
theorem gn_gN (x : Int32) : ∀ k, gN k (gn k x) x
  | 0 => gN_0
  | k + 1 => gN_s (gn_gN x k)
def drw (n h : Nat) : Nat → Int32 → Nat
  | 0, _ => 0
  | F + 1, x => if gn h x < n then gn h x else drw n h F (fit h x)
def sucs (n h F : Nat) (x : Int32) : Prop := ∃ t, t < F ∧ gn h (fit (h * t) x) < n
theorem s_step {n h F : Nat} {x : Int32} (hs : sucs n h (F + 1) x) (q : ¬ gn h x < n) : sucs n h F (fit h x) := by
  obtain ⟨t, ht, hg⟩ := hs
  cases t with
  | zero => rw [Nat.mul_zero] at hg; exact absurd hg q
  | succ t =>
    refine ⟨t, by omega, ?_⟩
    rw [← fit_add, show h * t + h = h * (t + 1) by rw [Nat.mul_add, Nat.mul_one]]
    exact hg
def isH (n h : Nat) : Prop := (n - 1) / 2 ^ h = 0 ∧ ∀ k, k < h → ¬ (n - 1) / 2 ^ k = 0
theorem isH_u {n h h' : Nat} (a : isH n h) (b : isH n h') : h = h' := by
  rcases Nat.lt_trichotomy h h' with z | z | z
  · exact absurd a.1 (b.2 h z)
  · exact z
  · exact absurd b.1 (a.2 h' z)
def hbl : Nat → Nat → Nat
  | 0, _ => 0
  | f + 1, m => if m = 0 then 0 else hbl f (m / 2) + 1
theorem hbl_ok : ∀ (f m : Nat), m < 2 ^ f → m / 2 ^ hbl f m = 0 ∧ ∀ k, k < hbl f m → ¬ m / 2 ^ k = 0
  | 0, m, h => by
    have e : m = 0 := by
      have : 2 ^ 0 = 1 := rfl
      omega
    subst e
    exact ⟨rfl, fun k hk => absurd hk (Nat.not_lt_zero k)⟩
  | f + 1, m, h => by
    by_cases z : m = 0
    · subst z
      exact ⟨Nat.zero_div _, fun k hk => absurd hk (Nat.not_lt_zero k)⟩
    · have e : hbl (f + 1) m = hbl f (m / 2) + 1 := if_neg z
      rw [e]
      obtain ⟨i1, i2⟩ := hbl_ok f (m / 2) (by rw [Nat.pow_succ] at h; omega)
      refine ⟨?_, fun k hk => ?_⟩
      · rw [Nat.pow_succ, Nat.mul_comm, ← Nat.div_div_eq_div_mul]
        exact i1
      · cases k with
        | zero => rw [Nat.pow_zero, Nat.div_one]; exact z
        | succ k =>
          rw [Nat.pow_succ, Nat.mul_comm, ← Nat.div_div_eq_div_mul]
          exact i2 k (by omega)
def hBd (n : Nat) : Nat := hbl 40 (n - 1)
theorem isH_B {n h : Nat} (hn : n ≤ 531250000) (a : isH n h) : h = hBd n := isH_u a (hbl_ok 40 (n - 1) (Nat.lt_of_le_of_lt (Nat.le_trans (Nat.sub_le n 1) hn) (by decide)))
theorem isH_ok {n h : Nat} (a : isH n h) : hOk n h := by
  cases h with
  | zero => exact Or.inl rfl
  | succ h =>
    refine Or.inr ?_
    rw [Nat.add_sub_cancel]
    have z := a.2 h (Nat.lt_succ_self h)
    rcases Nat.lt_or_ge (n - 1) (2 ^ h) with y | y
    · exact absurd (Nat.div_eq_of_lt y) z
    · exact y
theorem isH_29 {n h : Nat} (hn : n ≤ 531250000) (a : isH n h) : h ≤ 29 := by
  rcases isH_ok a with z | z
  · omega
  · have h1 : 2 ^ (h - 1) < 2 ^ 29 := Nat.lt_of_le_of_lt z (Nat.lt_of_le_of_lt (Nat.sub_le n 1) (Nat.lt_of_le_of_lt hn (by decide)))
    have h2 := (Nat.pow_lt_pow_iff_right (by decide)).mp h1
    omega
theorem s_ex {n h : Nat} (hn : n ≤ 531250000) (hn0 : 0 < n) (a : isH n h) (x : Int32) : sucs n h 1000000 x := by
  obtain ⟨t, ht, hz⟩ := lcg_b (isH_29 hn a) x
  refine ⟨t, ht, ?_⟩
  have g := gn_gN (fit (h * t) x) h
  by_cases h0 : h = 0
  · subst h0
    exact hn0
  · rcases hz with z | z
    · exact absurd z h0
    · rcases isH_ok a with y | y
      · exact absurd y h0
      · refine dr_a (g.2 ?_ h0) y
        rw [← fit_add, Nat.add_comm]
        exact z
def aDraw (fl : Int64) (S : List Int32) (x : Int32) : Int32 := if aCnt fl S = 0 then (-100006) else nI (drw (aCnt fl S).toNatClampNeg (hBd (aCnt fl S).toNatClampNeg) 1000000 x)
theorem ad_0 {fl : Int64} {S : List Int32} {x c : Int32} (e : c = aCnt fl S) (h : c = 0) : (-100006 : Int32) = aDraw fl S x := by rw [aDraw, ← e, if_pos h]
theorem ad_1 {fl : Int64} {S : List Int32} {x c : Int32} {n h : Nat} (e : c = aCnt fl S) (h0 : ¬ c = 0) (hc : c = nI n) (hn : n ≤ 531250000) (a : isH n h) : nI (drw n h 1000000 x) = aDraw fl S x := by
  rw [aDraw, ← e, if_neg h0, hc, nI_clamp (by omega), isH_B hn a]
/-- counts are small -/
theorem Wd_le (fr : Nat → Bool) : ∀ (n m : Nat), n ≤ 64 → m < 256 → leB (Wd fr n m) (64 - n) m
  | 0, m, _, hm => by
    show leB (if m = 0 then 1 else 0) 64 m
    split
    · exact ⟨1, wt_1 ⟨m, hm⟩, rfl⟩
    · exact leB_0
  | n + 1, m, hn, hm => by
    have ih := fun m2 h2 => Wd_le fr n m2 (by omega) h2
    have ef : 64 - n = 63 - n + 1 := by omega
    unfold Wd
    rw [show 64 - (n + 1) = 63 - n by omega]
    rw [ef] at ih
    have one : leB (Wd fr n (m / 2)) (63 - n) m := leB_le (ih (m / 2) (by omega)) (gOk_one (by omega) hm)
    by_cases c : fr (63 - n) = false ∨ m % 2 = 1
    · rw [if_pos c]
      exact one
    · rw [if_neg c]
      have hev : m % 2 = 0 := by
        have : ¬ m % 2 = 1 := fun z => c (Or.inr z)
        omega
      have g := gOk_two (f := 63 - n) (m := m) (by omega) hm hev
      have p1 : ∃ k, k ≤ (if (63 - n) % 8 < 7 ∧ m / 2 % 2 = 0 then gB (63 - n + 1) (m / 2 + 1) else 0) ∧ (if (63 - n) % 8 < 7 ∧ fr (64 - n) = true ∧ m / 2 % 2 = 0 then Wd fr n (m / 2 ||| 1) else 0) = nI k := by
        by_cases z : (63 - n) % 8 < 7 ∧ fr (64 - n) = true ∧ m / 2 % 2 = 0
        · rw [if_pos z, if_pos ⟨z.1, z.2.2⟩]
          have e : m / 2 ||| 1 = m / 2 + 1 := by rw [← or1_n]; omega
          rw [e]
          exact ih _ (by omega)
        · rw [if_neg z]
          exact ⟨0, Nat.zero_le _, rfl⟩
      have p2 : ∃ k, k ≤ (if 63 - n < 56 then gB (63 - n + 1) (m / 2 + 128) else 0) ∧ (if 63 - n < 56 ∧ fr (71 - n) = true then Wd fr n (m / 2 ||| 128) else 0) = nI k := by
        by_cases z : 63 - n < 56 ∧ fr (71 - n) = true
        · rw [if_pos z, if_pos z.1, ← or128_n (by omega)]
          exact ih _ (by omega)
        · rw [if_neg z]
          exact ⟨0, Nat.zero_le _, rfl⟩
      obtain ⟨k1, l1, e1⟩ := p1
      obtain ⟨k2, l2, e2⟩ := p2
      rw [e1, e2, nI_add]
      exact ⟨k1 + k2, Nat.le_trans (Nat.add_le_add l1 l2) g, rfl⟩
theorem cOk_cnt (fl : Int64) (S : List Int32) : cOk (aCnt fl S) := by
  obtain ⟨n, hn, e⟩ := Wd_le (bfx (fl &&& (gOr 0 S ^^^ (-1)))) 64 0 (by decide) (by decide)
  exact ⟨n, Nat.le_trans hn gB_0, e⟩
/-! the reference's loop -/
def DX (n h F : Nat) (s x v : Int32) : Prop := (F = 0 ∧ v = nI (drw n h 1000000 s) ∧ v < nI n) ∨ ∃ F', F = F' + 1 ∧ ¬ v < nI n ∧ drw n h 1000000 s = drw n h (F' + 1) x ∧ sucs n h (F' + 1) x
theorem dx_0 {n h : Nat} {s : Int32} (hn : n ≤ 531250000) (hn0 : 0 < n) (a : isH n h) : DX n h 1000000 s s (nI n) := Or.inr ⟨999999, rfl, Int32.lt_irrefl, rfl, s_ex hn hn0 a s⟩
theorem dx_out {n h F : Nat} {s x v : Int32} (d : DX n h F s x v) (q : v < nI n) : v = nI (drw n h 1000000 s) := by
  rcases d with ⟨-, e, -⟩ | ⟨F', -, e, -⟩
  · exact e
  · exact absurd q e
theorem dx_in {n h F : Nat} {s x v : Int32} (d : DX n h F s x v) (q : ¬ v < nI n) : ∃ F', F = F' + 1 ∧ drw n h 1000000 s = drw n h (F' + 1) x ∧ sucs n h (F' + 1) x := by
  rcases d with ⟨-, -, e⟩ | ⟨F', e, -, e2, e3⟩
  · exact absurd e q
  · exact ⟨F', e, e2, e3⟩
theorem dx_back {n h F' k : Nat} {s x : Int32} (hn : n ≤ 531250000) (a : isH n h) (e : drw n h 1000000 s = drw n h (F' + 1) x) (hs : sucs n h (F' + 1) x) (hk : k = h) : DX n h (if gn h x < n then 0 else F') s (fit k x) (nI (gn k x)) := by
  subst hk
  have hg : gn k x < 2 ^ 31 := Nat.lt_of_lt_of_le (gn_gN x k).1 (Nat.pow_le_pow_right (by decide) (Nat.le_trans (isH_29 hn a) (by decide)))
  by_cases q : gn k x < n
  · rw [if_pos q]
    refine Or.inl ⟨rfl, ?_, (nI_ltI hg (by omega)).mpr q⟩
    rw [e]
    exact congrArg nI (if_pos q).symm
  · rw [if_neg q]
    have hs2 := s_step hs q
    cases F' with
    | zero =>
      obtain ⟨t, ht, -⟩ := hs2
      exact absurd ht (Nat.not_lt_zero t)
    | succ F' =>
      refine Or.inr ⟨F', rfl, fun z => q ((nI_ltI hg (by omega)).mp z), ?_, hs2⟩
      rw [e]
      exact if_neg q
theorem dx_dec {n h F F' m : Nat} {x : Int32} (e : F = F' + 1) (hm : F < m + 1) : (if gn h x < n then 0 else F') < m := by
  split <;> omega
theorem ish_s {n h : Nat} (a : ∀ k, k < h → ¬ (n - 1) / 2 ^ k = 0) (q : ¬ nI ((n - 1) / 2 ^ h) = 0) : ∀ k, k < h + 1 → ¬ (n - 1) / 2 ^ k = 0 := by
  intro k hk
  by_cases e : k = h
  · subst e
    exact fun z => q (by rw [z]; rfl)
  · exact a k (by omega)
theorem ish_e {n h : Nat} (hn : n ≤ 531250000) (a : ∀ k, k < h → ¬ (n - 1) / 2 ^ k = 0) (q : nI ((n - 1) / 2 ^ h) = 0) : isH n h := by
  refine ⟨?_, a⟩
  have h1 : (n - 1) / 2 ^ h ≤ n - 1 := Nat.div_le_self _ _
  exact (nI_eq (b := 0) (by omega) (by decide)).mp q
theorem ish_le {n h : Nat} (hn : n ≤ 531250000) (a : ∀ k, k < h → ¬ (n - 1) / 2 ^ k = 0) : h ≤ 31 := by
  rcases Nat.lt_or_ge 31 h with z | z
  · refine absurd ?_ (a 31 z)
    exact Nat.div_eq_of_lt (Nat.lt_of_le_of_lt (Nat.le_trans (Nat.sub_le n 1) hn) (by decide))
  · exact z
theorem ish_q {n h : Nat} (hn : n ≤ 531250000) (q : nI ((n - 1) / 2 ^ h) ≤ 0) : nI ((n - 1) / 2 ^ h) = 0 := by
  have h1 : (n - 1) / 2 ^ h ≤ n - 1 := Nat.div_le_self _ _
  have z := (nI_leI (b := 0) (by omega) (by decide)).mp q
  rw [Nat.le_zero.mp z]
  rfl
theorem ish_m {n h m : Nat} (hn : n ≤ 531250000) (a : ∀ k, k < h + 1 → ¬ (n - 1) / 2 ^ k = 0) (hm : 31 - h < m + 1) : 31 - (h + 1) < m := by
  have := ish_le hn a
  omega
theorem shr1 {n h : Nat} (hn : n ≤ 531250000) : nI ((n - 1) / 2 ^ h) >>> ((1 : Int32) &&& 31) = nI ((n - 1) / 2 ^ (h + 1)) := by
  have h1 : (n - 1) / 2 ^ h ≤ n - 1 := Nat.div_le_self _ _
  rw [pk_shrN (by omega) _ 1 (by decide), Nat.pow_one, Nat.div_div_eq_div_mul, ← Nat.pow_succ]
theorem dw_s {n h t : Nat} {s x : Int32} (ht : t < 1000000) (e : drw n h 1000000 s = drw n h (1000000 - t) x) (q : ¬ gn h x < n) : drw n h 1000000 s = drw n h (1000000 - (t + 1)) (fit h x) := by
  rw [e, show 1000000 - t = (1000000 - (t + 1)) + 1 by omega]
  exact if_neg q
theorem dw_e {n h t : Nat} {s x : Int32} (ht : t < 1000000) (e : drw n h 1000000 s = drw n h (1000000 - t) x) (q : gn h x < n) : gn h x = drw n h 1000000 s := by
  rw [e, show 1000000 - t = (1000000 - (t + 1)) + 1 by omega]
  exact (if_pos q).symm
theorem gn_31 {n h : Nat} (hn : n ≤ 531250000) (a : isH n h) (x : Int32) : gn h x < 2 ^ 31 := Nat.lt_of_lt_of_le (gn_gN x h).1 (Nat.pow_le_pow_right (by decide) (Nat.le_trans (isH_29 hn a) (by decide)))
theorem dq_lt {n h k : Nat} {x : Int32} (hn : n ≤ 531250000) (a : isH n h) (hk : k = h) (q : ¬ nI n ≤ nI (gn k x)) : gn h x < n := by
  subst hk
  exact (nI_ltI (gn_31 hn a x) (by omega)).mp (Int32.not_le.mp q)
theorem dq_ge {n h k : Nat} {x : Int32} (hn : n ≤ 531250000) (a : isH n h) (hk : k = h) (q : nI n ≤ nI (gn k x)) : ¬ gn h x < n := by
  subst hk
  have z := (nI_leI (by omega) (gn_31 hn a x)).mp q
  omega
theorem dn_use {fl : Int64} {S : List Int32} {x c r : Int32} {n : Nat} (hr : ∃ h, isH n h ∧ r = nI (drw n h 1000000 x)) (e : c = aCnt fl S) (h0 : ¬ c = 0) (hc : c = nI n) (hn : n ≤ 531250000) : r = aDraw fl S x := by
  obtain ⟨h, a, rfl⟩ := hr
  exact ad_1 e h0 hc hn a
