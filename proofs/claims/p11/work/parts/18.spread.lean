def uN (x : Int64) : Nat := x.toUInt64.toNat
theorem uN_lt (x : Int64) : uN x < 18446744073709551616 := x.toUInt64.toNat_lt
theorem uN_inj {x y : Int64} (h : uN x = uN y) : x = y := congrArg UInt64.toInt64 (UInt64.toNat_inj.mp h)
theorem uN_and (x y : Int64) : uN (x &&& y) = uN x &&& uN y := UInt64.toNat_and _ _
theorem sm64 : ∀ n : Fin 64, (((nI n.val).toInt64 &&& 63).toBitVec.smod 64).toNat = n.val := by decide +kernel
theorem hasBit_nat (x : Int64) {n : Nat} (hn : n < 64) : m_hasBit x (nI n) = decide (uN x / 2 ^ n % 2 = 1) := by
  have e1 : uN ((x >>> ((nI n).toInt64 &&& 63)) &&& 1) = uN (x >>> ((nI n).toInt64 &&& 63)) % 2 := by
    rw [uN_and]
    exact Nat.and_two_pow_sub_one_eq_mod _ 1
  have e2 : (uN (x >>> ((nI n).toInt64 &&& 63))).testBit 0 = (uN x).testBit n := by
    show (x.toBitVec.sshiftRight (((nI n).toInt64 &&& 63).toBitVec.smod 64).toNat).getLsbD 0 = x.toBitVec.getLsbD n
    have h := sm64 ⟨n, hn⟩
    dsimp only at h
    rw [h, BitVec.getLsbD_sshiftRight]
    simp [hn]
  rw [Nat.testBit_eq_decide_div_mod_eq, Nat.testBit_eq_decide_div_mod_eq] at e2
  have e3 : (uN (x >>> ((nI n).toInt64 &&& 63)) % 2 = 1) ↔ (uN x / 2 ^ n % 2 = 1) := by
    have := decide_eq_decide.mp e2
    simpa using this
  unfold m_hasBit
  apply decide_eq_decide.mpr
  rw [← e3, ← e1]
  exact ⟨fun z => by rw [z]; rfl, fun z => uN_inj (z.trans rfl)⟩
theorem i64_zero {x : Int64} (h : ∀ n, n < 64 → m_hasBit x (nI n) = false) : x = 0 := by
  apply uN_inj
  apply Nat.eq_of_testBit_eq
  intro i
  rw [show uN 0 = 0 from rfl, Nat.zero_testBit]
  by_cases hi : i < 64
  · rw [Nat.testBit_eq_decide_div_mod_eq, ← hasBit_nat x hi]
    exact h i hi
  · exact Nat.testBit_lt_two_pow (Nat.lt_of_lt_of_le (uN_lt x) (show 2 ^ 64 ≤ 2 ^ i from Nat.pow_le_pow_right (by decide) (by omega)))
theorem pt_tab : ∀ n : Fin 64, m_within (nI (9 * (n.val / 8) + n.val % 8) - nI (9 * (n.val / 8) + n.val % 8) / 9 * 9) 0 7 = true ∧ m_within (nI (9 * (n.val / 8) + n.val % 8) / 9) 0 7 = true ∧ 8 * (nI (9 * (n.val / 8) + n.val % 8) / 9) + (nI (9 * (n.val / 8) + n.val % 8) - nI (9 * (n.val / 8) + n.val % 8) / 9 * 9) = nI n.val := by decide +kernel
theorem no_pt {fl : Int64} (h : ∀ p, p < 81 → m_isPoint fl (nI p - nI p / 9 * 9) (nI p / 9) = false) : fl = 0 := by
  apply i64_zero
  intro n hn
  have t := pt_tab ⟨n, hn⟩
  dsimp only at t
  have q := h (9 * (n / 8) + n % 8) (by omega)
  unfold m_isPoint at q
  rw [Bool.or_eq_false_iff] at q
  have q1 := q.1
  unfold m_isOn at q1
  rw [t.1, t.2.1, t.2.2] at q1
  exact q1
def fOk (fl : Int64) (i : Nat) (v : Int32) : Prop := vp_in v 81 ∨ ∀ p, 81 - i ≤ p → p < 81 → m_isPoint fl (nI p - nI p / 9 * 9) (nI p / 9) = false
theorem fOk_0 {fl : Int64} {v : Int32} : fOk fl 0 v := Or.inr (fun p h1 h2 => absurd h2 (by omega))
theorem fOk_t {fl : Int64} {i j : Nat} (h : i + j + 1 = 81) : fOk fl (i + 1) (nI j) := Or.inl (vp_in_nI (by omega) (by decide))
theorem fOk_f {fl : Int64} {i j : Nat} {v : Int32} (h : i + j + 1 = 81) (hf : fOk fl i v) (q : m_isPoint fl (nI j - nI j / 9 * 9) (nI j / 9) = false) : fOk fl (i + 1) v := by
  rcases hf with hf | hf
  · exact Or.inl hf
  · refine Or.inr (fun p h1 h2 => ?_)
    by_cases e : p = j
    · rw [e]
      exact q
    · exact hf p (by omega) h2
theorem fOk_end {fl : Int64} {i : Nat} {v : Int32} (e : i = 81) (hf : fOk fl i v) (h0 : ¬ fl = 0) : vp_in v 81 := by
  rcases hf with hf | hf
  · exact hf
  · exact absurd (no_pt (fun p h => hf p (by omega) h)) h0
def aF (m : Nat → Int32) (i : Nat) : Prop := ∀ p, 81 - i ≤ p → p < 81 → m p = 1000000
theorem aF_0 {m : Nat → Int32} : aF m 0 := fun p h1 h2 => absurd h2 (by omega)
theorem aF_s {m : Nat → Int32} {i j : Nat} (h : i + j + 1 = 81) (hf : aF m i) : aF (upd m (nI j).toNatClampNeg 1000000) (i + 1) := by
  intro p h1 h2
  rw [nI_clamp (by omega)]
  by_cases e : p = j
  · rw [e, pk_us]
  · rw [pk_un e]
    exact hf p (by omega) h2
theorem gw_lt {N i : Nat} (hN : N < 2147483648) (hi : i ≤ N) (q : ¬ nI (N - i) - 1 < 0) : ∃ j, i + j + 1 = N ∧ nI (N - i) - 1 = nI j := by
  by_cases h : i = N
  · subst h
    rw [Nat.sub_self] at q
    exact absurd (by decide) q
  · refine ⟨N - i - 1, by omega, ?_⟩
    rw [show N - i = (N - i - 1) + 1 by omega, nI_s1]
    rfl
theorem gw_ge {N i : Nat} (hN : N < 2147483648) (hi : i ≤ N) (q : nI (N - i) - 1 < 0) : i = N := by
  by_cases h : i = N
  · exact h
  · rw [show N - i = (N - i - 1) + 1 by omega, nI_s1] at q
    exact absurd ((nI_ltI (a := N - i - 1) (b := 0) (by omega) (by decide)).mp q) (Nat.not_lt_zero _)
theorem gw_dec {N i j : Nat} (h : i + j + 1 = N) : nI j + (-1) = nI (N - (i + 1)) - 1 := by
  rw [show N - (i + 1) = j by omega, Int32.sub_eq_add_neg]
def cF (m : Nat → Int32) : Nat → Nat
  | 0 => 0
  | n + 1 => cF m n + if m n = 1000000 then 1 else 0
theorem cF_out {m : Nat → Int32} {q : Nat} {v : Int32} : ∀ n, n ≤ q → cF (upd m q v) n = cF m n
  | 0, _ => rfl
  | n + 1, h => by rw [cF, cF, cF_out n (by omega), pk_un (by omega)]
theorem cF_ar {a b c : Nat} (h : a + 1 = b) : a + c + 1 = b + c := by omega
theorem cF_upd {m : Nat → Int32} {q : Nat} {v : Int32} (h0 : m q = 1000000) (hv : ¬ v = 1000000) : ∀ n, q < n → cF (upd m q v) n + 1 = cF m n
  | 0, h => absurd h (Nat.not_lt_zero _)
  | n + 1, h => by
    rw [cF, cF]
    by_cases e : q = n
    · subst e
      rw [cF_out q (Nat.le_refl q), pk_us, if_neg hv, if_pos h0]
    · have ih := cF_upd h0 hv n (by omega)
      rw [pk_un (fun z => e z.symm)]
      exact cF_ar ih
theorem cF_ar2 {a b n : Nat} (h : a ≤ n) (hb : b ≤ 1) : a + b ≤ n + 1 := by omega
theorem cF_le (m : Nat → Int32) : ∀ n, cF m n ≤ n
  | 0 => Nat.le_refl _
  | n + 1 => by
    rw [cF]
    refine cF_ar2 (cF_le m n) ?_
    split <;> decide
theorem cF_full {m : Nat → Int32} : ∀ n, (∀ p, p < n → m p = 1000000) → cF m n = n
  | 0, _ => rfl
  | n + 1, h => by rw [cF, cF_full n (fun p hp => h p (by omega)), if_pos (h n (by omega))]
def hBc (m : Nat → Int32) (c : Nat) : Prop := ∀ i, i < 81 → m i = 1000000 ∨ ((m i).toInt ≤ 81 - c ∧ -(81 - (c : Int)) ≤ (m i).toInt)
def hB (m : Nat → Int32) : Prop := ∃ c, cF m 81 = c ∧ c ≤ 81 ∧ hBc m c
theorem spr_ar {a v : Int} {c c' : Nat} (h1 : a ≤ 81 - c) (h2 : -(81 - (c : Int)) ≤ a) (hc : c ≤ 81) (e : c' + 1 = c) (hv : v = a + 1 ∨ v = a - 1) : v ≤ 81 - c' ∧ -(81 - (c' : Int)) ≤ v := by omega
theorem spr_ar2 {a v : Int} {c : Nat} (h1 : a ≤ 81 - c) (h2 : -(81 - (c : Int)) ≤ a) (hc : c ≤ 81) (hv : v = a + 1 ∨ v = a - 1) : v ≠ 1000000 := by omega
theorem spr_ar3 {a : Int} {c c' : Nat} (h1 : a ≤ 81 - c) (h2 : -(81 - (c : Int)) ≤ a) (e : c' + 1 = c) : a ≤ 81 - c' ∧ -(81 - (c' : Int)) ≤ a := by omega
theorem spr_ar4 {c c' : Nat} (hc : c ≤ 81) (e : c' + 1 = c) : c' ≤ 81 := by omega
theorem spr_gen {m : Nat → Int32} {p q : Nat} {v : Int32} (hp : p < 81) (hq : q < 81) (h : hB m) (hne : ¬ m p = 1000000) (heq : m q = 1000000) (hv : v.toInt = (m p).toInt + 1 ∨ v.toInt = (m p).toInt - 1) : hB (upd m q v) ∧ cF (upd m q v) 81 + bN true ≤ cF m 81 := by
  obtain ⟨c, hc, hcl, hb⟩ := h
  rcases hb p hp with z | ⟨b1, b2⟩
  · exact absurd z hne
  have hvne : ¬ v = 1000000 := fun z => spr_ar2 b1 b2 hcl hv (by rw [z]; rfl)
  have e := cF_upd heq hvne 81 hq
  rw [hc] at e
  refine ⟨⟨cF (upd m q v) 81, rfl, spr_ar4 hcl e, ?_⟩, ?_⟩
  · intro i hi
    by_cases z : i = q
    · subst z
      rw [pk_us]
      exact Or.inr (spr_ar b1 b2 hcl e hv)
    · rw [pk_un z]
      rcases hb i hi with y | ⟨y1, y2⟩
      · exact Or.inl y
      · exact Or.inr (spr_ar3 y1 y2 e)
  · exact Nat.le_of_eq (by rw [show bN true = 1 from rfl, e, hc])
theorem pm_int {x y : Int32} (h1 : -100 ≤ x.toInt) (h2 : x.toInt ≤ 100) (hy : y = 1 ∨ y = -1) : ((x + y).toInt = x.toInt + 1 ∨ (x + y).toInt = x.toInt - 1) ∧ ((x - y).toInt = x.toInt + 1 ∨ (x - y).toInt = x.toInt - 1) := by
  have e1 : (1 : Int32).toInt = 1 := rfl
  have e2 : (-1 : Int32).toInt = -1 := rfl
  rcases hy with rfl | rfl
  · refine ⟨Or.inl ?_, Or.inr ?_⟩
    · rw [Int32.toInt_add, e1]
      exact Int.bmod_eq_of_le (by omega) (by omega)
    · rw [Int32.toInt_sub, e1]
      exact Int.bmod_eq_of_le (by omega) (by omega)
  · refine ⟨Or.inr ?_, Or.inl ?_⟩
    · rw [Int32.toInt_add, e2]
      exact Int.bmod_eq_of_le (by omega) (by omega)
    · rw [Int32.toInt_sub, e2]
      exact Int.bmod_eq_of_le (by omega) (by omega)
theorem hB_bd {m : Nat → Int32} {p : Nat} (hp : p < 81) (h : hB m) (hne : ¬ m p = 1000000) : -100 ≤ (m p).toInt ∧ (m p).toInt ≤ 100 := by
  obtain ⟨c, hc, hcl, hb⟩ := h
  clear hc
  rcases hb p hp with z | ⟨b1, b2⟩
  · exact absurd z hne
  · exact ⟨by omega, by omega⟩
theorem spr_p {m : Nat → Int32} {p q : Nat} {y : Int32} (hp : p < 81) (hq : q < 81) (h : hB m) (hy : y = 1 ∨ y = -1) (hne : ¬ m (nI p).toNatClampNeg = 1000000) (heq : m (nI q).toNatClampNeg = 1000000) : hB (upd m (nI q).toNatClampNeg (m (nI p).toNatClampNeg + y)) ∧ cF (upd m (nI q).toNatClampNeg (m (nI p).toNatClampNeg + y)) 81 + bN true ≤ cF m 81 := by
  rw [nI_clamp (Nat.lt_trans hp (by decide)), nI_clamp (Nat.lt_trans hq (by decide))] at *
  have b := hB_bd hp h hne
  exact spr_gen hp hq h hne heq (pm_int b.1 b.2 hy).1
theorem spr_m {m : Nat → Int32} {p q : Nat} {y : Int32} (hp : p < 81) (hq : q < 81) (h : hB m) (hy : y = 1 ∨ y = -1) (hne : ¬ m (nI q).toNatClampNeg = 1000000) (heq : m (nI p).toNatClampNeg = 1000000) : hB (upd m (nI p).toNatClampNeg (m (nI q).toNatClampNeg - y)) ∧ cF (upd m (nI p).toNatClampNeg (m (nI q).toNatClampNeg - y)) 81 + bN true ≤ cF m 81 := by
  rw [nI_clamp (Nat.lt_trans hp (by decide)), nI_clamp (Nat.lt_trans hq (by decide))] at *
  have b := hB_bd hq h hne
  exact spr_gen hq hp h hne heq (pm_int b.1 b.2 hy).2
theorem spr_0 {m : Nat → Int32} (h : hB m) : hB m ∧ cF m 81 + bN false ≤ cF m 81 := by
  refine ⟨h, ?_⟩
  rw [show bN false = 0 from rfl]
  exact Nat.le_of_eq (Nat.add_zero _)
theorem hB_1 {m : Nat → Int32} {i : Nat} {v : Int32} (e : i = 81) (h : aF m i) (hv : vp_in v 81) : hB (upd m v.toNatClampNeg 0) := by
  subst e
  obtain ⟨j, hj, rfl⟩ := vp_in_of hv (by decide)
  rw [nI_clamp (Nat.lt_trans hj (by decide))]
  have hf := cF_full 81 (fun p hp => h p (by rw [Nat.sub_self]; exact Nat.zero_le _) hp)
  have e := cF_upd (v := 0) (h j (by rw [Nat.sub_self]; exact Nat.zero_le _) hj) (by decide) 81 hj
  rw [hf] at e
  have e2 : cF (upd m j 0) 81 = 80 := Nat.succ.inj e
  refine ⟨80, e2, by decide, fun i hi => ?_⟩
  by_cases z : i = j
  · subst z
    rw [pk_us]
    exact Or.inr (by decide)
  · rw [pk_un z]
    exact Or.inl (h i (by rw [Nat.sub_self]; exact Nat.zero_le _) hi)
theorem hc_t {a b c : Nat} {z v : Bool} (hp : a + bN z ≤ b) (hc : b + bN v ≤ c) (e : z = true) : a + bN true ≤ c := by
  subst e
  exact Nat.le_trans hp (Nat.le_trans (Nat.le_add_right _ _) hc)
theorem hc_v {a b c : Nat} {z v w : Bool} (hp : a + bN z ≤ b) (hc : b + bN v ≤ c) (e : v = w) : a + bN w ≤ c := by
  subst e
  exact Nat.le_trans (Nat.add_le_add_right (Nat.le_trans (Nat.le_add_right _ _) hp) _) hc
theorem hx_1 : ∀ p : Fin 81, ¬ ((8 : Int32) ≤ nI p.val - nI p.val / 9 * 9) → p.val + 1 < 81 := by decide +kernel
theorem hx_9 : ∀ p : Fin 81, ¬ ((8 : Int32) ≤ nI p.val / 9) → p.val + 9 < 81 := by decide +kernel
theorem h81_t : ∀ x : Fin 9, ∀ y : Fin 9, ¬ ((9 : Int32) * nI y.val + nI x.val < 0 ∨ 81 ≤ ((9 : Int32) * nI y.val + nI x.val).toNatClampNeg) := by decide +kernel
theorem within_in9 {x : Int32} (h : m_within x 0 8 = true) : vp_in x 9 := by
  rw [within_iff] at h
  rw [vp_in_iff]
  have e0 : (0 : Int32).toInt = 0 := rfl
  have e1 : (8 : Int32).toInt = 8 := rfl
  omega
theorem h81 {x y : Int32} (h1 : m_within x 0 8 = true) (h2 : m_within y 0 8 = true) : vp_in (9 * y + x) 81 := by
  obtain ⟨a, ha, rfl⟩ := vp_in_of (within_in9 h1) (by decide)
  obtain ⟨b, hb, rfl⟩ := vp_in_of (within_in9 h2) (by decide)
  exact h81_t ⟨a, ha⟩ ⟨b, hb⟩
theorem dX10_spread_0 : decode cX10_spread 0 = .ok (.aload_n 0, 1) := by decide +kernel
theorem dX10_spread_1 : decode cX10_spread 1 = .ok (.iload_n 1, 1) := by decide +kernel
theorem dX10_spread_2 : decode cX10_spread 2 = .ok (.iaload, 1) := by decide +kernel
theorem dX10_spread_3 : decode cX10_spread 3 = .ok (.ldc 242, 2) := by decide +kernel
theorem dX10_spread_5 : decode cX10_spread 5 = .ok (.if_icmp .eq 21, 3) := by decide +kernel
theorem dX10_spread_26 : decode cX10_spread 26 = .ok (.aload_n 0, 1) := by decide +kernel
theorem dX10_spread_27 : decode cX10_spread 27 = .ok (.iload_n 2, 1) := by decide +kernel
theorem dX10_spread_28 : decode cX10_spread 28 = .ok (.iaload, 1) := by decide +kernel
theorem dX10_spread_29 : decode cX10_spread 29 = .ok (.ldc 242, 2) := by decide +kernel
theorem dX10_spread_31 : decode cX10_spread 31 = .ok (.if_icmp .eq 21, 3) := by decide +kernel
theorem dX10_spread_52 : decode cX10_spread 52 = .ok (.iconst 0, 1) := by decide +kernel
theorem dX10_spread_53 : decode cX10_spread 53 = .ok (.ireturn, 1) := by decide +kernel
theorem dX10_spread_34 : decode cX10_spread 34 = .ok (.aload_n 0, 1) := by decide +kernel
theorem dX10_spread_35 : decode cX10_spread 35 = .ok (.iload_n 1, 1) := by decide +kernel
theorem dX10_spread_36 : decode cX10_spread 36 = .ok (.iaload, 1) := by decide +kernel
theorem dX10_spread_37 : decode cX10_spread 37 = .ok (.ldc 242, 2) := by decide +kernel
theorem dX10_spread_39 : decode cX10_spread 39 = .ok (.if_icmp .ne 13, 3) := by decide +kernel
theorem dX10_spread_42 : decode cX10_spread 42 = .ok (.aload_n 0, 1) := by decide +kernel
theorem dX10_spread_43 : decode cX10_spread 43 = .ok (.iload_n 1, 1) := by decide +kernel
theorem dX10_spread_44 : decode cX10_spread 44 = .ok (.aload_n 0, 1) := by decide +kernel
theorem dX10_spread_45 : decode cX10_spread 45 = .ok (.iload_n 2, 1) := by decide +kernel
theorem dX10_spread_46 : decode cX10_spread 46 = .ok (.iaload, 1) := by decide +kernel
theorem dX10_spread_47 : decode cX10_spread 47 = .ok (.iload_n 3, 1) := by decide +kernel
theorem dX10_spread_48 : decode cX10_spread 48 = .ok (.isub, 1) := by decide +kernel
theorem dX10_spread_49 : decode cX10_spread 49 = .ok (.iastore, 1) := by decide +kernel
theorem dX10_spread_50 : decode cX10_spread 50 = .ok (.iconst 1, 1) := by decide +kernel
theorem dX10_spread_51 : decode cX10_spread 51 = .ok (.ireturn, 1) := by decide +kernel
theorem dX10_spread_8 : decode cX10_spread 8 = .ok (.aload_n 0, 1) := by decide +kernel
theorem dX10_spread_9 : decode cX10_spread 9 = .ok (.iload_n 2, 1) := by decide +kernel
theorem dX10_spread_10 : decode cX10_spread 10 = .ok (.iaload, 1) := by decide +kernel
theorem dX10_spread_11 : decode cX10_spread 11 = .ok (.ldc 242, 2) := by decide +kernel
theorem dX10_spread_13 : decode cX10_spread 13 = .ok (.if_icmp .ne 13, 3) := by decide +kernel
theorem dX10_spread_16 : decode cX10_spread 16 = .ok (.aload_n 0, 1) := by decide +kernel
theorem dX10_spread_17 : decode cX10_spread 17 = .ok (.iload_n 2, 1) := by decide +kernel
theorem dX10_spread_18 : decode cX10_spread 18 = .ok (.aload_n 0, 1) := by decide +kernel
theorem dX10_spread_19 : decode cX10_spread 19 = .ok (.iload_n 1, 1) := by decide +kernel
theorem dX10_spread_20 : decode cX10_spread 20 = .ok (.iaload, 1) := by decide +kernel
theorem dX10_spread_21 : decode cX10_spread 21 = .ok (.iload_n 3, 1) := by decide +kernel
theorem dX10_spread_22 : decode cX10_spread 22 = .ok (.iadd, 1) := by decide +kernel
theorem dX10_spread_23 : decode cX10_spread 23 = .ok (.iastore, 1) := by decide +kernel
theorem dX10_spread_24 : decode cX10_spread 24 = .ok (.iconst 1, 1) := by decide +kernel
theorem dX10_spread_25 : decode cX10_spread 25 = .ok (.ireturn, 1) := by decide +kernel
set_option maxHeartbeats 4000000 in
set_option maxRecDepth 100000 in
theorem t_X10_spread13 (l : Launch) (D : va_G) (cy : Nat → ClassId) (a : Nat → Nat) (sz : Nat) (J : Nat → Int64) (I : Nat → Int32) (R : Nat → Nat → Int32) (RJ : Nat → Nat → Int64) (x1 : Nat) (x2 : Nat) (x3 : Int32) (hp : x1 < 81) (hq : x2 < 81) (hby : x3 = 1 ∨ x3 = -1) (hH : hB (R 13)) : Met l yX10_spread wsX10_spread ({ frames := 0, cells := 0, slots := 0, locals := 0 }) (va_Pc [.ref (a 13), .int (nI x1), .int (nI x2), .int x3] (PW D cy sz (MW cy a J I R RJ))) (va_Qi (fun r (u : MS) => ∃ (w0 : Nat → Int32), ∃ (b : Bool), (r = bI b ∧ (hB w0) ∧ (cF w0 81 + bN b ≤ cF (R 13) 81)) ∧ u = (J, I, (va_up R 13 w0), RJ)) (BW D (va_A (MW cy a J I R RJ) sz) (MWu cy a)) (va_A (MW cy a J I R RJ) sz)) 0 0 (va_A (MW cy a J I R RJ) sz) := by
  refine Met.ofW (cc := cX10_spread) (maxL := 4) (ret := (some .boolean)) (by decide) rfl ?_
  intro p e s m args below meth c s₁ B hml hv
  obtain ⟨rfl, rfl, hP, hK, hN, hD0⟩ := hv
  have hx := B.exec
  have hb := B.bytes
  have hr := B.returns
  have hts := atoms_spec (ws := wsX10_spread) B.pre
  have hown : s.vm.findClass RX10 = some m.cls := findClass_of_methodNamed B.named
  have hlocks := B.notSynchronized
  have hw0 := hts (.constant RX10 242 (1000000)) (by decide +kernel)
  have hD := hD0.self (sz := s.heap.size)
  generalize hAe : va_A (MW cy a J I R RJ) s.heap.size = A at hD ⊢
  have hA : ∀ q : Nat, s.heap.size ≤ q → A q := fun q h => by rw [← hAe]; exact Or.inr h
  have hS : va_S A s.heap s.heap [] := va_S.rf
  have hl := lv_entry ([.ref (a 13), .int (nI x1), .int (nI x2), .int x3]) (n := 4) (Nat.le_of_ble_eq_true rfl)
  rw [lg_entry_eq]
  generalize (lg_sl ([.ref (a 13), .int (nI x1), .int (nI x2), .int x3]) ++ List.replicate (4 - (lg_sl ([.ref (a 13), .int (nI x1), .int (nI x2), .int x3])).length) Slot.unset).toArray = ls at hl ⊢
  have hl : lv_has ls 4 [(0, .ref (a 13)), (1, .int (nI x1)), (2, .int (nI x2)), (3, .int x3)] := hl
  have hP : va_P D vwCl (MW cy a J I (va_up R 13 (R 13)) RJ) s.heap := hP
  have hD : va_D A (MW cy a J I (va_up R 13 (R 13)) RJ) := hD
  refine lv_aload_n hx hb dX10_spread_0 rfl (lv_at hl 0 rfl) ?_
  refine lv_iload_n hx hb dX10_spread_1 rfl (lv_at hl 1 rfl) ?_
  refine va_iald hx hb hK hP 13 0 rfl rfl (vp_in_nI hp (by decide)) dX10_spread_2 ?_
  refine lv_ldc (v := 1000000) hx hb hown hw0 dX10_spread_3 ?_
  refine lv_icmp_eq (tgt := 26) hx hb dX10_spread_5 (by decide) (fun c_1 => ?_) (fun c_1 => ?_)
  · refine lv_aload_n hx hb dX10_spread_26 rfl (lv_at hl 0 rfl) ?_
    refine lv_iload_n hx hb dX10_spread_27 rfl (lv_at hl 2 rfl) ?_
    refine va_iald hx hb hK hP 13 0 rfl rfl (vp_in_nI hq (by decide)) dX10_spread_28 ?_
    refine lv_ldc (v := 1000000) hx hb hown hw0 dX10_spread_29 ?_
    refine lv_icmp_eq (tgt := 52) hx hb dX10_spread_31 (by decide) (fun c_2 => ?_) (fun c_2 => ?_)
    · refine lv_iconst (v := 0) hx hb dX10_spread_52 (by decide) ?_
      exact wret_z hx hb hr hlocks rfl (J, I, (va_up R 13 (R 13)), RJ) ⟨(R 13), false, ⟨rfl, (spr_0 hH).1, (spr_0 hH).2⟩, rfl⟩ hP hD hS dX10_spread_53
    · refine lv_aload_n hx hb dX10_spread_34 rfl (lv_at hl 0 rfl) ?_
      refine lv_iload_n hx hb dX10_spread_35 rfl (lv_at hl 1 rfl) ?_
      refine va_iald hx hb hK hP 13 0 rfl rfl (vp_in_nI hp (by decide)) dX10_spread_36 ?_
      refine lv_ldc (v := 1000000) hx hb hown hw0 dX10_spread_37 ?_
      refine lv_icmp_ne (tgt := 52) hx hb dX10_spread_39 (by decide) (fun c_3 => ?_) (fun c_3 => ?_)
      · refine lv_iconst (v := 0) hx hb dX10_spread_52 (by decide) ?_
        exact wret_z hx hb hr hlocks rfl (J, I, (va_up R 13 (R 13)), RJ) ⟨(R 13), false, ⟨rfl, (spr_0 hH).1, (spr_0 hH).2⟩, rfl⟩ hP hD hS dX10_spread_53
      · refine lv_aload_n hx hb dX10_spread_42 rfl (lv_at hl 0 rfl) ?_
        refine lv_iload_n hx hb dX10_spread_43 rfl (lv_at hl 1 rfl) ?_
        refine lv_aload_n hx hb dX10_spread_44 rfl (lv_at hl 0 rfl) ?_
        refine lv_iload_n hx hb dX10_spread_45 rfl (lv_at hl 2 rfl) ?_
        refine va_iald hx hb hK hP 13 0 rfl rfl (vp_in_nI hq (by decide)) dX10_spread_46 ?_
        refine lv_iload_n hx hb dX10_spread_47 rfl (lv_at hl 3 rfl) ?_
        refine lv_isub hx hb dX10_spread_48 ?_
        refine va_iast hx hb hK hP hD hS 13 0 rfl rfl (vp_in_nI hp (by decide)) dX10_spread_49 (fun H locs hP hD hS => ?_)
        have hP : va_P D vwCl (MW cy a J I (va_up R 13 (upd (R 13) (nI x1).toNatClampNeg (((R 13) (nI x2).toNatClampNeg) - x3))) RJ) H := hP
        have hD : va_D A (MW cy a J I (va_up R 13 (upd (R 13) (nI x1).toNatClampNeg (((R 13) (nI x2).toNatClampNeg) - x3))) RJ) := hD
        refine lv_iconst (v := 1) hx hb dX10_spread_50 (by decide) ?_
        exact wret_z hx hb hr hlocks rfl (J, I, (va_up R 13 (upd (R 13) (nI x1).toNatClampNeg (((R 13) (nI x2).toNatClampNeg) - x3))), RJ) ⟨(upd (R 13) (nI x1).toNatClampNeg (((R 13) (nI x2).toNatClampNeg) - x3)), true, ⟨rfl, (spr_m hp hq hH hby c_2 c_3).1, (spr_m hp hq hH hby c_2 c_3).2⟩, rfl⟩ hP hD hS dX10_spread_51
  · refine lv_aload_n hx hb dX10_spread_8 rfl (lv_at hl 0 rfl) ?_
    refine lv_iload_n hx hb dX10_spread_9 rfl (lv_at hl 2 rfl) ?_
    refine va_iald hx hb hK hP 13 0 rfl rfl (vp_in_nI hq (by decide)) dX10_spread_10 ?_
    refine lv_ldc (v := 1000000) hx hb hown hw0 dX10_spread_11 ?_
    refine lv_icmp_ne (tgt := 26) hx hb dX10_spread_13 (by decide) (fun c_4 => ?_) (fun c_4 => ?_)
    · refine lv_aload_n hx hb dX10_spread_26 rfl (lv_at hl 0 rfl) ?_
      refine lv_iload_n hx hb dX10_spread_27 rfl (lv_at hl 2 rfl) ?_
      refine va_iald hx hb hK hP 13 0 rfl rfl (vp_in_nI hq (by decide)) dX10_spread_28 ?_
      refine lv_ldc (v := 1000000) hx hb hown hw0 dX10_spread_29 ?_
      refine lv_icmp_eq (tgt := 52) hx hb dX10_spread_31 (by decide) (fun c_5 => ?_) (fun c_5 => ?_)
      · refine lv_iconst (v := 0) hx hb dX10_spread_52 (by decide) ?_
        exact wret_z hx hb hr hlocks rfl (J, I, (va_up R 13 (R 13)), RJ) ⟨(R 13), false, ⟨rfl, (spr_0 hH).1, (spr_0 hH).2⟩, rfl⟩ hP hD hS dX10_spread_53
      · refine lv_aload_n hx hb dX10_spread_34 rfl (lv_at hl 0 rfl) ?_
        refine lv_iload_n hx hb dX10_spread_35 rfl (lv_at hl 1 rfl) ?_
        refine va_iald hx hb hK hP 13 0 rfl rfl (vp_in_nI hp (by decide)) dX10_spread_36 ?_
        refine lv_ldc (v := 1000000) hx hb hown hw0 dX10_spread_37 ?_
        refine lv_icmp_ne (tgt := 52) hx hb dX10_spread_39 (by decide) (fun c_6 => ?_) (fun c_6 => ?_)
        · refine lv_iconst (v := 0) hx hb dX10_spread_52 (by decide) ?_
          exact wret_z hx hb hr hlocks rfl (J, I, (va_up R 13 (R 13)), RJ) ⟨(R 13), false, ⟨rfl, (spr_0 hH).1, (spr_0 hH).2⟩, rfl⟩ hP hD hS dX10_spread_53
        · refine lv_aload_n hx hb dX10_spread_42 rfl (lv_at hl 0 rfl) ?_
          refine lv_iload_n hx hb dX10_spread_43 rfl (lv_at hl 1 rfl) ?_
          refine lv_aload_n hx hb dX10_spread_44 rfl (lv_at hl 0 rfl) ?_
          refine lv_iload_n hx hb dX10_spread_45 rfl (lv_at hl 2 rfl) ?_
          refine va_iald hx hb hK hP 13 0 rfl rfl (vp_in_nI hq (by decide)) dX10_spread_46 ?_
          refine lv_iload_n hx hb dX10_spread_47 rfl (lv_at hl 3 rfl) ?_
          refine lv_isub hx hb dX10_spread_48 ?_
          refine va_iast hx hb hK hP hD hS 13 0 rfl rfl (vp_in_nI hp (by decide)) dX10_spread_49 (fun H locs hP hD hS => ?_)
          have hP : va_P D vwCl (MW cy a J I (va_up R 13 (upd (R 13) (nI x1).toNatClampNeg (((R 13) (nI x2).toNatClampNeg) - x3))) RJ) H := hP
          have hD : va_D A (MW cy a J I (va_up R 13 (upd (R 13) (nI x1).toNatClampNeg (((R 13) (nI x2).toNatClampNeg) - x3))) RJ) := hD
          refine lv_iconst (v := 1) hx hb dX10_spread_50 (by decide) ?_
          exact wret_z hx hb hr hlocks rfl (J, I, (va_up R 13 (upd (R 13) (nI x1).toNatClampNeg (((R 13) (nI x2).toNatClampNeg) - x3))), RJ) ⟨(upd (R 13) (nI x1).toNatClampNeg (((R 13) (nI x2).toNatClampNeg) - x3)), true, ⟨rfl, (spr_m hp hq hH hby c_5 c_6).1, (spr_m hp hq hH hby c_5 c_6).2⟩, rfl⟩ hP hD hS dX10_spread_51
    · refine lv_aload_n hx hb dX10_spread_16 rfl (lv_at hl 0 rfl) ?_
      refine lv_iload_n hx hb dX10_spread_17 rfl (lv_at hl 2 rfl) ?_
      refine lv_aload_n hx hb dX10_spread_18 rfl (lv_at hl 0 rfl) ?_
      refine lv_iload_n hx hb dX10_spread_19 rfl (lv_at hl 1 rfl) ?_
      refine va_iald hx hb hK hP 13 0 rfl rfl (vp_in_nI hp (by decide)) dX10_spread_20 ?_
      refine lv_iload_n hx hb dX10_spread_21 rfl (lv_at hl 3 rfl) ?_
      refine lv_iadd hx hb dX10_spread_22 ?_
      refine va_iast hx hb hK hP hD hS 13 0 rfl rfl (vp_in_nI hq (by decide)) dX10_spread_23 (fun H locs hP hD hS => ?_)
      have hP : va_P D vwCl (MW cy a J I (va_up R 13 (upd (R 13) (nI x2).toNatClampNeg (((R 13) (nI x1).toNatClampNeg) + x3))) RJ) H := hP
      have hD : va_D A (MW cy a J I (va_up R 13 (upd (R 13) (nI x2).toNatClampNeg (((R 13) (nI x1).toNatClampNeg) + x3))) RJ) := hD
      refine lv_iconst (v := 1) hx hb dX10_spread_24 (by decide) ?_
      exact wret_z hx hb hr hlocks rfl (J, I, (va_up R 13 (upd (R 13) (nI x2).toNatClampNeg (((R 13) (nI x1).toNatClampNeg) + x3))), RJ) ⟨(upd (R 13) (nI x2).toNatClampNeg (((R 13) (nI x1).toNatClampNeg) + x3)), true, ⟨rfl, (spr_p hp hq hH hby c_1 c_4).1, (spr_p hp hq hH hby c_1 c_4).2⟩, rfl⟩ hP hD hS dX10_spread_25
set_option maxHeartbeats 4000000 in
set_option maxRecDepth 100000 in
theorem t_X10_spread14 (l : Launch) (D : va_G) (cy : Nat → ClassId) (a : Nat → Nat) (sz : Nat) (J : Nat → Int64) (I : Nat → Int32) (R : Nat → Nat → Int32) (RJ : Nat → Nat → Int64) (x1 : Nat) (x2 : Nat) (x3 : Int32) (hp : x1 < 81) (hq : x2 < 81) (hby : x3 = 1 ∨ x3 = -1) (hH : hB (R 14)) : Met l yX10_spread wsX10_spread ({ frames := 0, cells := 0, slots := 0, locals := 0 }) (va_Pc [.ref (a 14), .int (nI x1), .int (nI x2), .int x3] (PW D cy sz (MW cy a J I R RJ))) (va_Qi (fun r (u : MS) => ∃ (w0 : Nat → Int32), ∃ (b : Bool), (r = bI b ∧ (hB w0) ∧ (cF w0 81 + bN b ≤ cF (R 14) 81)) ∧ u = (J, I, (va_up R 14 w0), RJ)) (BW D (va_A (MW cy a J I R RJ) sz) (MWu cy a)) (va_A (MW cy a J I R RJ) sz)) 0 0 (va_A (MW cy a J I R RJ) sz) := by
  refine Met.ofW (cc := cX10_spread) (maxL := 4) (ret := (some .boolean)) (by decide) rfl ?_
  intro p e s m args below meth c s₁ B hml hv
  obtain ⟨rfl, rfl, hP, hK, hN, hD0⟩ := hv
  have hx := B.exec
  have hb := B.bytes
  have hr := B.returns
  have hts := atoms_spec (ws := wsX10_spread) B.pre
  have hown : s.vm.findClass RX10 = some m.cls := findClass_of_methodNamed B.named
  have hlocks := B.notSynchronized
  have hw0 := hts (.constant RX10 242 (1000000)) (by decide +kernel)
  have hD := hD0.self (sz := s.heap.size)
  generalize hAe : va_A (MW cy a J I R RJ) s.heap.size = A at hD ⊢
  have hA : ∀ q : Nat, s.heap.size ≤ q → A q := fun q h => by rw [← hAe]; exact Or.inr h
  have hS : va_S A s.heap s.heap [] := va_S.rf
  have hl := lv_entry ([.ref (a 14), .int (nI x1), .int (nI x2), .int x3]) (n := 4) (Nat.le_of_ble_eq_true rfl)
  rw [lg_entry_eq]
  generalize (lg_sl ([.ref (a 14), .int (nI x1), .int (nI x2), .int x3]) ++ List.replicate (4 - (lg_sl ([.ref (a 14), .int (nI x1), .int (nI x2), .int x3])).length) Slot.unset).toArray = ls at hl ⊢
  have hl : lv_has ls 4 [(0, .ref (a 14)), (1, .int (nI x1)), (2, .int (nI x2)), (3, .int x3)] := hl
  have hP : va_P D vwCl (MW cy a J I (va_up R 14 (R 14)) RJ) s.heap := hP
  have hD : va_D A (MW cy a J I (va_up R 14 (R 14)) RJ) := hD
  refine lv_aload_n hx hb dX10_spread_0 rfl (lv_at hl 0 rfl) ?_
  refine lv_iload_n hx hb dX10_spread_1 rfl (lv_at hl 1 rfl) ?_
  refine va_iald hx hb hK hP 14 0 rfl rfl (vp_in_nI hp (by decide)) dX10_spread_2 ?_
  refine lv_ldc (v := 1000000) hx hb hown hw0 dX10_spread_3 ?_
  refine lv_icmp_eq (tgt := 26) hx hb dX10_spread_5 (by decide) (fun c_1 => ?_) (fun c_1 => ?_)
  · refine lv_aload_n hx hb dX10_spread_26 rfl (lv_at hl 0 rfl) ?_
    refine lv_iload_n hx hb dX10_spread_27 rfl (lv_at hl 2 rfl) ?_
    refine va_iald hx hb hK hP 14 0 rfl rfl (vp_in_nI hq (by decide)) dX10_spread_28 ?_
    refine lv_ldc (v := 1000000) hx hb hown hw0 dX10_spread_29 ?_
    refine lv_icmp_eq (tgt := 52) hx hb dX10_spread_31 (by decide) (fun c_2 => ?_) (fun c_2 => ?_)
    · refine lv_iconst (v := 0) hx hb dX10_spread_52 (by decide) ?_
      exact wret_z hx hb hr hlocks rfl (J, I, (va_up R 14 (R 14)), RJ) ⟨(R 14), false, ⟨rfl, (spr_0 hH).1, (spr_0 hH).2⟩, rfl⟩ hP hD hS dX10_spread_53
    · refine lv_aload_n hx hb dX10_spread_34 rfl (lv_at hl 0 rfl) ?_
      refine lv_iload_n hx hb dX10_spread_35 rfl (lv_at hl 1 rfl) ?_
      refine va_iald hx hb hK hP 14 0 rfl rfl (vp_in_nI hp (by decide)) dX10_spread_36 ?_
      refine lv_ldc (v := 1000000) hx hb hown hw0 dX10_spread_37 ?_
      refine lv_icmp_ne (tgt := 52) hx hb dX10_spread_39 (by decide) (fun c_3 => ?_) (fun c_3 => ?_)
      · refine lv_iconst (v := 0) hx hb dX10_spread_52 (by decide) ?_
        exact wret_z hx hb hr hlocks rfl (J, I, (va_up R 14 (R 14)), RJ) ⟨(R 14), false, ⟨rfl, (spr_0 hH).1, (spr_0 hH).2⟩, rfl⟩ hP hD hS dX10_spread_53
      · refine lv_aload_n hx hb dX10_spread_42 rfl (lv_at hl 0 rfl) ?_
        refine lv_iload_n hx hb dX10_spread_43 rfl (lv_at hl 1 rfl) ?_
        refine lv_aload_n hx hb dX10_spread_44 rfl (lv_at hl 0 rfl) ?_
        refine lv_iload_n hx hb dX10_spread_45 rfl (lv_at hl 2 rfl) ?_
        refine va_iald hx hb hK hP 14 0 rfl rfl (vp_in_nI hq (by decide)) dX10_spread_46 ?_
        refine lv_iload_n hx hb dX10_spread_47 rfl (lv_at hl 3 rfl) ?_
        refine lv_isub hx hb dX10_spread_48 ?_
        refine va_iast hx hb hK hP hD hS 14 0 rfl rfl (vp_in_nI hp (by decide)) dX10_spread_49 (fun H locs hP hD hS => ?_)
        have hP : va_P D vwCl (MW cy a J I (va_up R 14 (upd (R 14) (nI x1).toNatClampNeg (((R 14) (nI x2).toNatClampNeg) - x3))) RJ) H := hP
        have hD : va_D A (MW cy a J I (va_up R 14 (upd (R 14) (nI x1).toNatClampNeg (((R 14) (nI x2).toNatClampNeg) - x3))) RJ) := hD
        refine lv_iconst (v := 1) hx hb dX10_spread_50 (by decide) ?_
        exact wret_z hx hb hr hlocks rfl (J, I, (va_up R 14 (upd (R 14) (nI x1).toNatClampNeg (((R 14) (nI x2).toNatClampNeg) - x3))), RJ) ⟨(upd (R 14) (nI x1).toNatClampNeg (((R 14) (nI x2).toNatClampNeg) - x3)), true, ⟨rfl, (spr_m hp hq hH hby c_2 c_3).1, (spr_m hp hq hH hby c_2 c_3).2⟩, rfl⟩ hP hD hS dX10_spread_51
  · refine lv_aload_n hx hb dX10_spread_8 rfl (lv_at hl 0 rfl) ?_
    refine lv_iload_n hx hb dX10_spread_9 rfl (lv_at hl 2 rfl) ?_
    refine va_iald hx hb hK hP 14 0 rfl rfl (vp_in_nI hq (by decide)) dX10_spread_10 ?_
    refine lv_ldc (v := 1000000) hx hb hown hw0 dX10_spread_11 ?_
    refine lv_icmp_ne (tgt := 26) hx hb dX10_spread_13 (by decide) (fun c_4 => ?_) (fun c_4 => ?_)
    · refine lv_aload_n hx hb dX10_spread_26 rfl (lv_at hl 0 rfl) ?_
      refine lv_iload_n hx hb dX10_spread_27 rfl (lv_at hl 2 rfl) ?_
      refine va_iald hx hb hK hP 14 0 rfl rfl (vp_in_nI hq (by decide)) dX10_spread_28 ?_
      refine lv_ldc (v := 1000000) hx hb hown hw0 dX10_spread_29 ?_
      refine lv_icmp_eq (tgt := 52) hx hb dX10_spread_31 (by decide) (fun c_5 => ?_) (fun c_5 => ?_)
      · refine lv_iconst (v := 0) hx hb dX10_spread_52 (by decide) ?_
        exact wret_z hx hb hr hlocks rfl (J, I, (va_up R 14 (R 14)), RJ) ⟨(R 14), false, ⟨rfl, (spr_0 hH).1, (spr_0 hH).2⟩, rfl⟩ hP hD hS dX10_spread_53
      · refine lv_aload_n hx hb dX10_spread_34 rfl (lv_at hl 0 rfl) ?_
        refine lv_iload_n hx hb dX10_spread_35 rfl (lv_at hl 1 rfl) ?_
        refine va_iald hx hb hK hP 14 0 rfl rfl (vp_in_nI hp (by decide)) dX10_spread_36 ?_
        refine lv_ldc (v := 1000000) hx hb hown hw0 dX10_spread_37 ?_
        refine lv_icmp_ne (tgt := 52) hx hb dX10_spread_39 (by decide) (fun c_6 => ?_) (fun c_6 => ?_)
        · refine lv_iconst (v := 0) hx hb dX10_spread_52 (by decide) ?_
          exact wret_z hx hb hr hlocks rfl (J, I, (va_up R 14 (R 14)), RJ) ⟨(R 14), false, ⟨rfl, (spr_0 hH).1, (spr_0 hH).2⟩, rfl⟩ hP hD hS dX10_spread_53
        · refine lv_aload_n hx hb dX10_spread_42 rfl (lv_at hl 0 rfl) ?_
          refine lv_iload_n hx hb dX10_spread_43 rfl (lv_at hl 1 rfl) ?_
          refine lv_aload_n hx hb dX10_spread_44 rfl (lv_at hl 0 rfl) ?_
          refine lv_iload_n hx hb dX10_spread_45 rfl (lv_at hl 2 rfl) ?_
          refine va_iald hx hb hK hP 14 0 rfl rfl (vp_in_nI hq (by decide)) dX10_spread_46 ?_
          refine lv_iload_n hx hb dX10_spread_47 rfl (lv_at hl 3 rfl) ?_
          refine lv_isub hx hb dX10_spread_48 ?_
          refine va_iast hx hb hK hP hD hS 14 0 rfl rfl (vp_in_nI hp (by decide)) dX10_spread_49 (fun H locs hP hD hS => ?_)
          have hP : va_P D vwCl (MW cy a J I (va_up R 14 (upd (R 14) (nI x1).toNatClampNeg (((R 14) (nI x2).toNatClampNeg) - x3))) RJ) H := hP
          have hD : va_D A (MW cy a J I (va_up R 14 (upd (R 14) (nI x1).toNatClampNeg (((R 14) (nI x2).toNatClampNeg) - x3))) RJ) := hD
          refine lv_iconst (v := 1) hx hb dX10_spread_50 (by decide) ?_
          exact wret_z hx hb hr hlocks rfl (J, I, (va_up R 14 (upd (R 14) (nI x1).toNatClampNeg (((R 14) (nI x2).toNatClampNeg) - x3))), RJ) ⟨(upd (R 14) (nI x1).toNatClampNeg (((R 14) (nI x2).toNatClampNeg) - x3)), true, ⟨rfl, (spr_m hp hq hH hby c_5 c_6).1, (spr_m hp hq hH hby c_5 c_6).2⟩, rfl⟩ hP hD hS dX10_spread_51
    · refine lv_aload_n hx hb dX10_spread_16 rfl (lv_at hl 0 rfl) ?_
      refine lv_iload_n hx hb dX10_spread_17 rfl (lv_at hl 2 rfl) ?_
      refine lv_aload_n hx hb dX10_spread_18 rfl (lv_at hl 0 rfl) ?_
      refine lv_iload_n hx hb dX10_spread_19 rfl (lv_at hl 1 rfl) ?_
      refine va_iald hx hb hK hP 14 0 rfl rfl (vp_in_nI hp (by decide)) dX10_spread_20 ?_
      refine lv_iload_n hx hb dX10_spread_21 rfl (lv_at hl 3 rfl) ?_
      refine lv_iadd hx hb dX10_spread_22 ?_
      refine va_iast hx hb hK hP hD hS 14 0 rfl rfl (vp_in_nI hq (by decide)) dX10_spread_23 (fun H locs hP hD hS => ?_)
      have hP : va_P D vwCl (MW cy a J I (va_up R 14 (upd (R 14) (nI x2).toNatClampNeg (((R 14) (nI x1).toNatClampNeg) + x3))) RJ) H := hP
      have hD : va_D A (MW cy a J I (va_up R 14 (upd (R 14) (nI x2).toNatClampNeg (((R 14) (nI x1).toNatClampNeg) + x3))) RJ) := hD
      refine lv_iconst (v := 1) hx hb dX10_spread_24 (by decide) ?_
      exact wret_z hx hb hr hlocks rfl (J, I, (va_up R 14 (upd (R 14) (nI x2).toNatClampNeg (((R 14) (nI x1).toNatClampNeg) + x3))), RJ) ⟨(upd (R 14) (nI x2).toNatClampNeg (((R 14) (nI x1).toNatClampNeg) + x3)), true, ⟨rfl, (spr_p hp hq hH hby c_1 c_4).1, (spr_p hp hq hH hby c_1 c_4).2⟩, rfl⟩ hP hD hS dX10_spread_25
