def cpOk (s fr t to n : Int32) : Prop := ∃ a b c d e : Nat, s = nI a ∧ a < 4 ∧ fr = nI b ∧ t = nI c ∧ c < 4 ∧ to = nI d ∧ n = nI e ∧ b + e ≤ 16 ∧ d + e ≤ 16
theorem i64_int (x : Int32) : x.toInt64.toInt = x.toInt := Int32.toInt_toInt64 x
theorem add_int64 (x y : Int32) : (x.toInt64 + y.toInt64).toInt = x.toInt + y.toInt := by
  have h1 := i32_rng x
  have h2 := i32_rng y
  rw [Int64.toInt_add, i64_int, i64_int]
  exact Int.bmod_eq_of_le (by omega) (by omega)
theorem sum_le {x n z : Int32} (h : (x.toInt64 + n.toInt64) ≤ z.toInt64) : x.toInt + n.toInt ≤ z.toInt := by
  rw [Int64.le_iff_toInt_le, add_int64, i64_int] at h
  exact h
theorem nI_ofn {x : Int32} (h : ¬ x < 0) : ∃ j : Nat, x = nI j ∧ x.toInt = j := by
  have h1 := i32_rng x
  rw [Int32.lt_iff_toInt_lt] at h
  have e0 : (0 : Int32).toInt = 0 := rfl
  refine ⟨x.toInt.toNat, ?_, by omega⟩
  apply Int32.toInt_inj.mp
  by_cases q : x.toInt = 2147483647
  · rw [q]
    rfl
  · rw [nI_int (by omega)]
    omega
theorem cp_ok {s fr t to n z w : Int32} (hs : vp_in s 4) (ht : vp_in t 4) (hz : vp_in z 17) (hw : vp_in w 17) (h1 : ¬ fr < 0) (h2 : ¬ to < 0) (h3 : ¬ n < 0) (h4 : ¬ 0 < lg_cmp (fr.toInt64 + n.toInt64) z.toInt64) (h5 : lg_cmp (to.toInt64 + n.toInt64) w.toInt64 ≤ 0) : cpOk s fr t to n := by
  rw [lg_cmp_gt, Int64.not_lt] at h4
  rw [lg_cmp_le] at h5
  have k4 := sum_le h4
  have k5 := sum_le h5
  obtain ⟨a, ha, rfl⟩ := vp_in_of hs (by decide)
  obtain ⟨c, hc, rfl⟩ := vp_in_of ht (by decide)
  obtain ⟨b, hb, eb⟩ := nI_ofn h1
  obtain ⟨d, hd, ed⟩ := nI_ofn h2
  obtain ⟨e, he, ee⟩ := nI_ofn h3
  have z1 := (vp_in_iff.mp hz).2
  have w1 := (vp_in_iff.mp hw).2
  exact ⟨a, b, c, d, e, rfl, ha, hb, rfl, hc, hd, he, by omega, by omega⟩
theorem cp_lt {s fr t to n : Int32} {i : Nat} (h : cpOk s fr t to n) (hi : i ≤ 16) (q : ¬ n ≤ nI i) : i < 16 := by
  obtain ⟨a, b, c, d, e, rfl, ha, rfl, rfl, hc, rfl, rfl, h1, h2⟩ := h
  have := ctr_lt2 (N := e) (i := i) (by omega) (by omega) q
  omega
theorem cp_i1 {s fr t to n : Int32} {i : Nat} (h : cpOk s fr t to n) (hi : i ≤ 16) (q : ¬ n ≤ nI i) : vp_in (16 * s + fr + nI i) 64 := by
  obtain ⟨a, b, c, d, e, rfl, ha, rfl, rfl, hc, rfl, rfl, h1, h2⟩ := h
  have := ctr_lt2 (N := e) (i := i) (by omega) (by omega) q
  have e : (16 : Int32) * nI a + nI b + nI i = nI (16 * a + b + i) := by rw [← nI_add, ← nI_add, ← pk_mul]; rfl
  rw [e]
  exact vp_in_nI (by omega) (by decide)
theorem cp_i2 {s fr t to n : Int32} {i : Nat} (h : cpOk s fr t to n) (hi : i ≤ 16) (q : ¬ n ≤ nI i) : vp_in (16 * t + to + nI i) 64 := by
  obtain ⟨a, b, c, d, e, rfl, ha, rfl, rfl, hc, rfl, rfl, h1, h2⟩ := h
  have := ctr_lt2 (N := e) (i := i) (by omega) (by omega) q
  have e : (16 : Int32) * nI c + nI d + nI i = nI (16 * c + d + i) := by rw [← nI_add, ← nI_add, ← pk_mul]; rfl
  rw [e]
  exact vp_in_nI (by omega) (by decide)
