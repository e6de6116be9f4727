def fit : Nat → Int32 → Int32
  | 0, x => x
  | k + 1, x => 1103515245 * fit k x + 12345
theorem fit_add : ∀ (a b : Nat) (x : Int32), fit (a + b) x = fit a (fit b x)
  | 0, b, x => by rw [Nat.zero_add]; rfl
  | a + 1, b, x => by
    rw [Nat.succ_add]
    show 1103515245 * fit (a + b) x + 12345 = 1103515245 * fit a (fit b x) + 12345
    rw [fit_add a b x]
theorem lc_step {N N' : Nat} {A C A' C' : Int32} (h : ∃ n, n = N ∧ ∀ x, fit n x = A * x + C) (hN : N + N = N') (hA : A * A = A') (hC : A * C + C = C') : ∃ n, n = N' ∧ ∀ x, fit n x = A' * x + C' := by
  obtain ⟨n, hn, hf⟩ := h
  refine ⟨n + n, by rw [hn, hN], fun x => ?_⟩
  rw [fit_add, hf, hf, ← hA, ← hC, Int32.mul_add, Int32.mul_assoc, Int32.add_assoc]
theorem lc_0 : ∃ n, n = 1 ∧ ∀ x, fit n x = 1103515245 * x + 12345 := ⟨1, rfl, fun x => rfl⟩
theorem lc_1 : ∃ n, n = 2 ∧ ∀ x, fit n x = (-1029531031) * x + (-740551042) := lc_step lc_0 (by decide) (by decide) (by decide)
theorem lc_2 : ∃ n, n = 4 ∧ ∀ x, fit n x = (-301564143) * x + (-698016724) := lc_step lc_1 (by decide) (by decide) (by decide)
theorem lc_3 : ∃ n, n = 8 ∧ ∀ x, fit n x = (-807543007) * x + (-853684456) := lc_step lc_2 (by decide) (by decide) (by decide)
theorem lc_4 : ∃ n, n = 16 ∧ ∀ x, fit n x = 1601471041 * x + 1695770928 := lc_step lc_3 (by decide) (by decide) (by decide)
theorem lc_5 : ∃ n, n = 32 ∧ ∀ x, fit n x = (-1959914367) * x + 1680572000 := lc_step lc_4 (by decide) (by decide) (by decide)
theorem lc_6 : ∃ n, n = 64 ∧ ∀ x, fit n x = 1979738369 * x + 422948032 := lc_step lc_5 (by decide) (by decide) (by decide)
theorem lc_7 : ∃ n, n = 128 ∧ ∀ x, fit n x = 387043841 * x + (-1236919936) := lc_step lc_6 (by decide) (by decide) (by decide)
theorem lc_8 : ∃ n, n = 256 ∧ ∀ x, fit n x = (-1100504063) * x + 519516928 := lc_step lc_7 (by decide) (by decide) (by decide)
theorem lc_9 : ∃ n, n = 512 ∧ ∀ x, fit n x = (-572569599) * x + 530212352 := lc_step lc_8 (by decide) (by decide) (by decide)
theorem lc_10 : ∃ n, n = 1024 ∧ ∀ x, fit n x = 1073647617 * x + (-2048603136) := lc_step lc_9 (by decide) (by decide) (by decide)
theorem lc_11 : ∃ n, n = 2048 ∧ ∀ x, fit n x = (-1862459391) * x + 646551552 := lc_step lc_10 (by decide) (by decide) (by decide)
theorem lc_12 : ∃ n, n = 4096 ∧ ∀ x, fit n x = 1710899201 * x + (-1206702080) := lc_step lc_11 (by decide) (by decide) (by decide)
theorem lc_13 : ∃ n, n = 8192 ∧ ∀ x, fit n x = (-604733439) * x + 472276992 := lc_step lc_12 (by decide) (by decide) (by decide)
theorem lc_14 : ∃ n, n = 16384 ∧ ∀ x, fit n x = (-135725055) * x + (-397623296) := lc_step lc_13 (by decide) (by decide) (by decide)
theorem lc_15 : ∃ n, n = 32768 ∧ ∀ x, fit n x = (-271450111) * x + (-1868988416) := lc_step lc_14 (by decide) (by decide) (by decide)
theorem lc_16 : ∃ n, n = 65536 ∧ ∀ x, fit n x = (-542900223) * x + 556990464 := lc_step lc_15 (by decide) (by decide) (by decide)
theorem lc_17 : ∃ n, n = 131072 ∧ ∀ x, fit n x = (-1085800447) * x + 1113980928 := lc_step lc_16 (by decide) (by decide) (by decide)
theorem lc_18 : ∃ n, n = 262144 ∧ ∀ x, fit n x = 2123366401 * x + (-2067005440) := lc_step lc_17 (by decide) (by decide) (by decide)
theorem lc_19 : ∃ n, n = 524288 ∧ ∀ x, fit n x = (-48234495) * x + 160956416 := lc_step lc_18 (by decide) (by decide) (by decide)
theorem lc_20 : ∃ n, n = 1048576 ∧ ∀ x, fit n x = (-96468991) * x + 321912832 := lc_step lc_19 (by decide) (by decide) (by decide)
theorem lc_21 : ∃ n, n = 2097152 ∧ ∀ x, fit n x = (-192937983) * x + 643825664 := lc_step lc_20 (by decide) (by decide) (by decide)
theorem lc_22 : ∃ n, n = 4194304 ∧ ∀ x, fit n x = (-385875967) * x + 1287651328 := lc_step lc_21 (by decide) (by decide) (by decide)
theorem lc_23 : ∃ n, n = 8388608 ∧ ∀ x, fit n x = (-771751935) * x + (-1719664640) := lc_step lc_22 (by decide) (by decide) (by decide)
theorem lc_24 : ∃ n, n = 16777216 ∧ ∀ x, fit n x = (-1543503871) * x + 855638016 := lc_step lc_23 (by decide) (by decide) (by decide)
theorem lc_25 : ∃ n, n = 33554432 ∧ ∀ x, fit n x = 1207959553 * x + 1711276032 := lc_step lc_24 (by decide) (by decide) (by decide)
theorem lc_26 : ∃ n, n = 67108864 ∧ ∀ x, fit n x = (-1879048191) * x + (-872415232) := lc_step lc_25 (by decide) (by decide) (by decide)
theorem lc_27 : ∃ n, n = 134217728 ∧ ∀ x, fit n x = 536870913 * x + (-1744830464) := lc_step lc_26 (by decide) (by decide) (by decide)
theorem lc_28 : ∃ n, n = 268435456 ∧ ∀ x, fit n x = 1073741825 * x + 805306368 := lc_step lc_27 (by decide) (by decide) (by decide)
theorem lc_29 : ∃ n, n = 536870912 ∧ ∀ x, fit n x = (-2147483647) * x + 1610612736 := lc_step lc_28 (by decide) (by decide) (by decide)
theorem lc_30 : ∃ n, n = 1073741824 ∧ ∀ x, fit n x = 1 * x + (-1073741824) := lc_step lc_29 (by decide) (by decide) (by decide)
theorem lc_31 : ∃ n, n = 2147483648 ∧ ∀ x, fit n x = 1 * x + (-2147483648) := lc_step lc_30 (by decide) (by decide) (by decide)
theorem lc_ex : ∃ n, n = 2147483648 ∧ ∀ x, fit n x = x + (-2147483648) := by
  obtain ⟨n, hn, hf⟩ := lc_31
  exact ⟨n, hn, fun x => by rw [hf, Int32.one_mul]⟩
def tb (x : Int32) : Nat := x.toBitVec.toNat / 2147483648
theorem tb_le (x : Int32) : tb x ≤ 1 := by
  have h : x.toBitVec.toNat < 2 ^ 32 := x.toBitVec.isLt
  unfold tb
  generalize x.toBitVec.toNat = a at h ⊢
  omega
theorem tb_ar {a : Nat} (h : a < 2 ^ 32) (h1 : ¬ a / 2147483648 = 0) : (a + 2147483648) % 4294967296 / 2147483648 = 0 := by omega
theorem tb_flip {x : Int32} (h : ¬ tb x = 0) : tb (x + (-2147483648)) = 0 := by
  have h0 : x.toBitVec.toNat < 2 ^ 32 := x.toBitVec.isLt
  have e : (x + (-2147483648)).toBitVec.toNat = (x.toBitVec.toNat + 2147483648) % 4294967296 := by
    rw [Int32.toBitVec_add, BitVec.toNat_add]
    rfl
  unfold tb at h ⊢
  rw [e]
  exact tb_ar h0 h
theorem tb_eq (x : Int32) : (x.toUInt32 >>> ((31 : Int32).toUInt32 &&& Int32.toUInt32 31)).toInt32 = nI (tb x) := by
  apply Int32.toBitVec_inj.mp
  apply BitVec.eq_of_toNat_eq
  rw [pk_ushr x 31 31 (by decide)]
  show _ = (BitVec.ofNat 32 (tb x)).toNat
  rw [BitVec.toNat_ofNat, Nat.mod_eq_of_lt (Nat.lt_of_le_of_lt (tb_le x) (by decide))]
  rfl
theorem lc_odd {n : Nat} (hf : ∀ x, fit n x = x + (-2147483648)) : ∀ (m : Nat) (x : Int32), fit (n * (2 * m + 1)) x = x + (-2147483648)
  | 0, x => by rw [Nat.mul_zero, Nat.zero_add, Nat.mul_one]; exact hf x
  | m + 1, x => by
    rw [show n * (2 * (m + 1) + 1) = n * (2 * m + 1) + n + n by rw [show 2 * (m + 1) + 1 = (2 * m + 1) + 1 + 1 by omega, Nat.mul_add, Nat.mul_add, Nat.mul_one]]
    rw [fit_add, fit_add, lc_odd hf m, hf, hf, Int32.add_assoc, Int32.add_assoc, show (-2147483648 : Int32) + (-2147483648 + -2147483648) = -2147483648 by decide]
def tH (h : Nat) : Nat := if h % 2 = 1 then 2147483648 else if h % 4 = 2 then 1073741824 else if h % 8 = 4 then 536870912 else if h % 16 = 8 then 268435456 else 134217728
def rH (h : Nat) : Nat := if h % 2 = 1 then h / 2 else if h % 4 = 2 then h / 4 else if h % 8 = 4 then h / 8 else if h % 16 = 8 then h / 16 else h / 32
theorem tH_t : ∀ h : Fin 31, h.val ≠ 0 → h.val * tH h.val = 2147483648 * (2 * rH h.val + 1) := by decide +kernel
theorem lcg_ex {h : Nat} (hle : h ≤ 30) (x : Int32) : ∃ t, h = 0 ∨ tb (fit (h * t + 1) x) = 0 := by
  by_cases h0 : h = 0
  · exact ⟨0, Or.inl h0⟩
  by_cases h1 : tb (fit 1 x) = 0
  · exact ⟨0, Or.inr (by rw [Nat.mul_zero, Nat.zero_add]; exact h1)⟩
  obtain ⟨n, hn, hf⟩ := lc_ex
  have t := tH_t ⟨h, Nat.lt_succ_of_le hle⟩ h0
  dsimp only at t
  refine ⟨tH h, Or.inr ?_⟩
  rw [t, ← hn, Nat.add_comm, fit_add, lc_odd hf]
  have e : fit 1 (x + (-2147483648)) = fit 1 x + (-2147483648) := by
    show 1103515245 * (x + (-2147483648)) + 12345 = 1103515245 * x + 12345 + (-2147483648)
    rw [Int32.mul_add, Int32.add_assoc, Int32.add_assoc, show (1103515245 : Int32) * (-2147483648) + 12345 = 12345 + (-2147483648) by decide]
  rw [e]
  exact tb_flip h1
def gN (k m : Nat) (x : Int32) : Prop := m < 2 ^ k ∧ (tb (fit 1 x) = 0 → k ≠ 0 → m < 2 ^ (k - 1))
theorem gN_0 {x : Int32} : gN 0 0 x := ⟨by decide, fun _ z => absurd rfl z⟩
theorem gN_ar {m b p : Nat} (h : m < p) (hb : b ≤ 1) : 2 * m + b < p * 2 := by omega
theorem gN_s {k m : Nat} {x : Int32} (h : gN k m x) : gN (k + 1) (2 * m + tb (fit (k + 1) x)) x := by
  refine ⟨?_, fun z _ => ?_⟩
  · rw [Nat.pow_succ]
    exact gN_ar h.1 (tb_le _)
  · rw [Nat.add_sub_cancel]
    cases k with
    | zero =>
      have := h.1
      rw [Nat.pow_zero] at this ⊢
      rw [Nat.lt_one_iff.mp this, z]
      decide
    | succ k =>
      have := h.2 z (Nat.succ_ne_zero k)
      rw [Nat.add_sub_cancel] at this
      rw [Nat.pow_succ]
      exact gN_ar this (tb_le _)
def hOk (n h : Nat) : Prop := h = 0 ∨ 2 ^ (h - 1) ≤ n - 1
theorem hOk_le {n h : Nat} (hn : n ≤ 531250000) (hh : hOk n h) : h ≤ 30 := by
  rcases hh with hh | hh
  · omega
  · have h1 : 2 ^ (h - 1) < 2 ^ 30 := Nat.lt_of_le_of_lt hh (Nat.lt_of_le_of_lt (Nat.sub_le n 1) (Nat.lt_of_le_of_lt hn (by decide)))
    have h2 := (Nat.pow_lt_pow_iff_right (by decide)).mp h1
    omega
theorem c_pos {r : Int32} (h : cOk r) (q : ¬ r = 0) : ∃ n, n ≤ 531250000 ∧ 0 < n ∧ r = nI n := by
  obtain ⟨n, hn, e⟩ := h
  refine ⟨n, hn, ?_, e⟩
  cases n with
  | zero => exact absurd e q
  | succ n => exact Nat.succ_pos n
theorem nI_pr9 {n : Nat} (h : 0 < n) : nI n - 1 = nI (n - 1) := by
  cases n with
  | zero => exact absurd h (Nat.lt_irrefl 0)
  | succ n => rw [nI_s1]; rfl
theorem sm32 : ∀ h : Fin 32, ((nI h.val &&& 31).toBitVec.smod 32).toNat = h.val := by decide +kernel
theorem dr_lt {n : Nat} (h : n ≤ 531250000) : n - 1 < 2 ^ 31 := by omega
theorem dr_s {n h : Nat} (hn : n ≤ 531250000) (q : ¬ nI ((n - 1) / 2 ^ h) = 0) : hOk n (h + 1) := by
  refine Or.inr ?_
  rw [Nat.add_sub_cancel]
  rcases Nat.lt_or_ge (n - 1) (2 ^ h) with z | z
  · rw [Nat.div_eq_of_lt z] at q
    exact absurd rfl q
  · exact z
theorem dr_31 {n h : Nat} (hn : n ≤ 531250000) (hh : hOk n h) : h < 32 := Nat.lt_of_le_of_lt (hOk_le hn hh) (by decide)
theorem dr_m {n h m : Nat} (hn : n ≤ 531250000) (hh : hOk n h) (hh2 : hOk n (h + 1)) (hm : 31 - h < m + 1) : 31 - (h + 1) < m := by
  have := hOk_le hn hh2
  omega
theorem dr_31b {n h : Nat} (hn : n ≤ 531250000) (hh : hOk n (h + 1)) : h + 1 ≤ 31 := Nat.le_trans (hOk_le hn hh) (by decide)
def DR (n h tt : Nat) (x v : Int32) : Prop := (tt = 0 ∧ v < nI n) ∨ ∃ t, tt = t + 1 ∧ (h = 0 ∨ tb (fit (h * t + 1) x) = 0)
theorem dr_pos {n h tt : Nat} {x v : Int32} (hd : DR n h tt x v) (q : ¬ v < nI n) : ∃ t, tt = t + 1 ∧ (h = 0 ∨ tb (fit (h * t + 1) x) = 0) := by
  rcases hd with ⟨-, z⟩ | z
  · exact absurd z q
  · exact z
theorem dr_dec {tt t m : Nat} (h : tt = t + 1) (hm : tt < m + 1) : t < m := by omega
theorem dr_a {m p n : Nat} (h : m < p) (hp : p ≤ n - 1) : m < n := by omega
theorem dr_back {n h t k m : Nat} {x : Int32} (hn : n ≤ 531250000) (hn0 : 0 < n) (hh : hOk n h) (ht : h = 0 ∨ tb (fit (h * t + 1) x) = 0) (hk : k = h) (hg : gN k m x) : DR n h t (fit k x) (nI m) := by
  subst hk
  cases t with
  | zero =>
    refine Or.inl ⟨rfl, ?_⟩
    have hmn : m < n := by
      by_cases h0 : k = 0
      · subst h0
        exact Nat.lt_of_lt_of_le hg.1 hn0
      · rcases ht with ht | ht
        · exact absurd ht h0
        · rw [Nat.mul_zero, Nat.zero_add] at ht
          rcases hh with z | z
          · exact absurd z h0
          · exact dr_a (hg.2 ht h0) z
    exact (nI_ltI (Nat.lt_of_lt_of_le hmn (Nat.le_trans hn (by decide))) (Nat.lt_of_le_of_lt hn (by decide))).mpr hmn
  | succ t =>
    refine Or.inr ⟨t, rfl, ?_⟩
    rcases ht with ht | ht
    · exact Or.inl ht
    · refine Or.inr ?_
      rw [← fit_add, show k * t + 1 + k = k * (t + 1) + 1 by rw [Nat.mul_add, Nat.mul_one]; omega]
      exact ht
