/-! ===== how many bits: Long.bitCount and a count bit by bit ===== -/
theorem uN_add (x y : Int64) : uN (x + y) = (uN x + uN y) % 18446744073709551616 := by
  show (x.toUInt64 + y.toUInt64).toNat = _
  exact UInt64.toNat_add _ _
theorem uN_shr (x : Int64) (s : UInt64) : uN (x.toUInt64 >>> s).toInt64 = uN x / 2 ^ (s.toNat % 64) := by
  show (x.toUInt64 >>> s).toNat = _
  rw [UInt64.toNat_shiftRight, Nat.shiftRight_eq_div_pow]
  rfl
theorem uN_sk (x : Int64) {k : Nat} (hk : k < 64) : uN (x.toUInt64 >>> ((nI k).toInt64.toUInt64 &&& Int64.toUInt64 63)).toInt64 = uN x / 2 ^ k := by
  have h : ((nI k).toInt64.toUInt64 &&& Int64.toUInt64 63).toNat % 64 = k := by
    rw [nI_l (by omega), UInt64.toNat_and]
    have e : (lN k).toUInt64.toNat = k % 2 ^ 64 := rfl
    have e2 : (Int64.toUInt64 63).toNat = 2 ^ 6 - 1 := by decide
    rw [e, e2, Nat.and_two_pow_sub_one_eq_mod]
    omega
  rw [uN_shr, h]
theorem uN_sub {x y : Int64} (h : uN y ≤ uN x) : uN (x - y) = uN x - uN y := by
  show (x.toUInt64 - y.toUInt64).toNat = _
  exact UInt64.toNat_sub_of_le _ _ h
def pn1 (M u : Nat) : Nat := u - (u / 2 &&& M)
def pn2 (M u : Nat) : Nat := (u &&& M) + (u / 4 &&& M)
def pn3 (M u : Nat) : Nat := (u + u / 16) &&& M
theorem and_cut (u M : Nat) : u &&& M = 256 * (u / 256 &&& M / 256) + (u % 256 &&& M % 256) := by
  have h1 : (u &&& M) % 256 = (u % 256) &&& (M % 256) := Nat.and_mod_two_pow (n := 8)
  have h2 : (u &&& M) / 256 = u / 256 &&& M / 256 := Nat.and_div_two_pow (n := 8)
  rw [← h1, ← h2]
  exact (Nat.div_add_mod _ 256).symm
theorem pt1 : ∀ b : Fin 256, ∀ c : Fin 2, (b.val / 2 + 128 * c.val) &&& 85 = b.val / 2 &&& 85 := by decide +kernel
theorem pt2 : ∀ b : Fin 256, ∀ c : Fin 4, (b.val / 4 + 64 * c.val) &&& 51 = b.val / 4 &&& 51 := by decide +kernel
theorem pg1 {u q r a b e : Nat} (hq : u / 256 = q) (hr : u % 256 = r) (he : e = 256 * a + b) (l1 : a ≤ q / 2) (l2 : b ≤ r / 2) : u - e = 256 * (q - a) + (r - b) := by omega
theorem pg2 (u : Nat) : u / 2 / 256 = u / 256 / 2 := by omega
theorem pg3 (u : Nat) : u / 2 % 256 = u % 256 / 2 + 128 * (u / 256 % 2) := by omega
theorem pg4 (u : Nat) : u / 4 / 256 = u / 256 / 4 := by omega
theorem pg5 (u : Nat) : u / 4 % 256 = u % 256 / 4 + 64 * (u / 256 % 4) := by omega
theorem pg6 {a b c d : Nat} : (256 * a + b) + (256 * c + d) = 256 * (a + c) + (b + d) := by omega
theorem pg7 {u : Nat} (h1 : u % 256 ≤ 68) (h2 : u / 256 % 16 ≤ 4) : (u + u / 16) / 256 = u / 256 + u / 256 / 16 := by omega
theorem pg8 {u : Nat} (h1 : u % 256 ≤ 68) (h2 : u / 256 % 16 ≤ 4) : (u + u / 16) % 256 % 16 = (u % 256 + u % 256 / 16) % 16 := by omega
theorem pg9 {a b : Nat} (h : b < 256) : (256 * a + b) / 256 = a ∧ (256 * a + b) % 256 = b := by omega
theorem pg10 {a b : Nat} (h : b % 16 ≤ 4) : (256 * a + b) % 16 ≤ 4 := by omega
theorem pg11 {a b P : Nat} (h : 2 * a + 1 ≤ P) (hb : b ≤ 68) : 2 * (256 * a + b) + 1 ≤ P * 256 := by omega
theorem pg12 {p : Nat} (h : 2 * p + 1 ≤ 256 ^ 8) : p < 18446744073709551616 ∧ p + p / 16 < 18446744073709551616 := by omega
theorem pg13 {v d : Nat} (h : v < 4611686018427387904) : v + v / d < 18446744073709551616 := by
  have := Nat.div_le_self v d
  omega
theorem pg14 {a b c : Nat} : a + b + c = a + (b + c) := Nat.add_assoc a b c
theorem pn1_cut {M u : Nat} (hM : M % 256 = 85) : pn1 M u = 256 * pn1 (M / 256) (u / 256) + pn1 85 (u % 256) := by
  have e := and_cut (u / 2) M
  rw [hM, pg2, pg3] at e
  have t := pt1 ⟨u % 256, by omega⟩ ⟨u / 256 % 2, by omega⟩
  dsimp only at t
  rw [t] at e
  have l1 : u / 256 / 2 &&& M / 256 ≤ u / 256 / 2 := Nat.and_le_left
  have l2 : u % 256 / 2 &&& 85 ≤ u % 256 / 2 := Nat.and_le_left
  unfold pn1
  exact pg1 rfl rfl e l1 l2
theorem pn2_cut {M u : Nat} (hM : M % 256 = 51) : pn2 M u = 256 * pn2 (M / 256) (u / 256) + pn2 51 (u % 256) := by
  have e := and_cut (u / 4) M
  have e2 := and_cut u M
  rw [hM, pg4, pg5] at e
  rw [hM] at e2
  have t := pt2 ⟨u % 256, by omega⟩ ⟨u / 256 % 4, by omega⟩
  dsimp only at t
  rw [t] at e
  unfold pn2
  rw [e, e2]
  exact pg6
theorem pn3_cut {M u : Nat} (hM : M % 256 = 15) (h1 : u % 256 ≤ 68) (h2 : u / 256 % 16 ≤ 4) : pn3 M u = 256 * pn3 (M / 256) (u / 256) + pn3 15 (u % 256) := by
  have e := and_cut (u + u / 16) M
  rw [hM, pg7 h1 h2] at e
  have m1 : (u + u / 16) % 256 &&& 15 = (u + u / 16) % 256 % 16 := Nat.and_two_pow_sub_one_eq_mod _ 4
  have m2 : (u % 256 + u % 256 / 16) &&& 15 = (u % 256 + u % 256 / 16) % 16 := Nat.and_two_pow_sub_one_eq_mod _ 4
  rw [m1] at e
  unfold pn3
  rw [e, m2, pg8 h1 h2]
def pmk (c : Nat) : Nat → Nat
  | 0 => 0
  | k + 1 => 256 * pmk c k + c
theorem pmk_mod {c : Nat} (hc : c < 256) (k : Nat) : pmk c (k + 1) % 256 = c ∧ pmk c (k + 1) / 256 = pmk c k := by
  show (256 * pmk c k + c) % 256 = c ∧ (256 * pmk c k + c) / 256 = pmk c k
  exact ⟨(pg9 hc).2, (pg9 hc).1⟩
def pby (b : Nat) : Nat := pn3 15 (pn2 51 (pn1 85 b))
theorem pby_tab : ∀ b : Fin 256, pn1 85 b.val < 256 ∧ pn2 51 (pn1 85 b.val) ≤ 68 ∧ pn2 51 (pn1 85 b.val) % 16 ≤ 4 ∧ pby b.val ≤ 8 ∧ pby b.val = b.val % 2 + b.val / 2 % 2 + b.val / 4 % 2 + b.val / 8 % 2 + b.val / 16 % 2 + b.val / 32 % 2 + b.val / 64 % 2 + b.val / 128 % 2 := by decide +kernel
def pV (k u : Nat) : Nat := pn2 (pmk 51 k) (pn1 (pmk 85 k) u)
def pD : Nat → Nat → Nat
  | 0, _ => 0
  | k + 1, u => 256 * pD k (u / 256) + pby (u % 256)
theorem pV_0 (u : Nat) : pV 0 u = 0 := by simp [pV, pn2, pmk]
theorem pV_s (k u : Nat) : pV (k + 1) u = 256 * pV k (u / 256) + pn2 51 (pn1 85 (u % 256)) := by
  have h1 := pn1_cut (u := u) (pmk_mod (c := 85) (by decide) k).1
  rw [(pmk_mod (c := 85) (by decide) k).2] at h1
  have h2 := pn2_cut (u := pn1 (pmk 85 (k + 1)) u) (pmk_mod (c := 51) (by decide) k).1
  rw [(pmk_mod (c := 51) (by decide) k).2] at h2
  have t := (pby_tab ⟨u % 256, by omega⟩).1
  dsimp only at t
  rw [h1, (pg9 t).1, (pg9 t).2] at h2
  unfold pV
  rw [h1]
  exact h2
theorem pV_nib (k u : Nat) : pV k u % 16 ≤ 4 := by
  cases k with
  | zero => rw [pV_0]; decide
  | succ k =>
    have t := (pby_tab ⟨u % 256, by omega⟩).2.2.1
    dsimp only at t
    rw [pV_s]
    exact pg10 t
theorem pV_lt : ∀ (k u : Nat), 2 * pV k u + 1 ≤ 256 ^ k
  | 0, u => by rw [pV_0]; decide
  | k + 1, u => by
    have ih := pV_lt k (u / 256)
    have t := (pby_tab ⟨u % 256, by omega⟩).2.1
    dsimp only at t
    rw [pV_s, Nat.pow_succ]
    exact pg11 ih t
theorem pT (k u : Nat) : pn3 (pmk 15 k) (pV k u) = pD k u := by
  induction k generalizing u with
  | zero => rw [pV_0]; rfl
  | succ k ih =>
    have t := (pby_tab ⟨u % 256, by omega⟩).2.1
    dsimp only at t
    have hs := pV_s k u
    have e1 : pV (k + 1) u % 256 = pn2 51 (pn1 85 (u % 256)) := by rw [hs]; exact (pg9 (Nat.lt_of_le_of_lt t (by decide))).2
    have e2 : pV (k + 1) u / 256 = pV k (u / 256) := by rw [hs]; exact (pg9 (Nat.lt_of_le_of_lt t (by decide))).1
    have h3 := pn3_cut (u := pV (k + 1) u) (pmk_mod (c := 15) (by decide) k).1 (by rw [e1]; exact t) (by rw [e2]; exact pV_nib k _)
    rw [(pmk_mod (c := 15) (by decide) k).2, e1, e2, ih] at h3
    exact h3
def pS : Nat → Nat → Nat
  | 0, _ => 0
  | k + 1, u => pS k (u / 256) + pby (u % 256)
theorem pby_le (u : Nat) : pby (u % 256) ≤ 8 := (pby_tab ⟨u % 256, by omega⟩).2.2.2.1
theorem pS_le : ∀ (k u : Nat), pS k u ≤ 8 * k
  | 0, _ => Nat.le_refl 0
  | k + 1, u => by
    have h := pS_le k (u / 256)
    have h2 := pby_le u
    exact Nat.add_le_add h h2
theorem pf_bd {a b p B C : Nat} (e : a = 256 * b + p) (hb : b < B) (hp : p ≤ 8) (hC : 256 * B = C) : a < C := by omega
theorem pf_y {p0 p1 p2 a1 a2 a3 t : Nat} (et : t = 256 * a1 + p0) (e1 : a1 = 256 * a2 + p1) (e2 : a2 = 256 * a3 + p2) : t + a1 = 65536 * (a2 + a3) + (256 * (p1 + p2) + (p0 + p1)) := by
  subst e2; subst e1; subst et; omega
theorem pf_z {p0 p1 p2 p3 p4 p5 p6 p7 a6 a45 a23 y z : Nat} (ey : y = 65536 * a23 + (256 * (p1 + p2) + (p0 + p1))) (hz : z = y + a23) (e23 : a23 = 65536 * a45 + (256 * (p3 + p4) + (p2 + p3))) (e45 : a45 = 65536 * (a6 + p7) + (256 * (p5 + p6) + (p4 + p5))) :
    z = 4294967296 * (a45 + a6 + p7) + (65536 * (256 * (p3 + p4 + p5 + p6) + (p2 + p3 + p4 + p5)) + (256 * (p1 + p2 + p3 + p4) + (p0 + p1 + p2 + p3))) := by
  subst hz; subst ey; subst e23; subst e45; omega
theorem pf_c {p2 p3 p4 a2 a3 a4 a5 : Nat} (e2 : a2 = 256 * a3 + p2) (e3 : a3 = 256 * a4 + p3) (e4 : a4 = 256 * a5 + p4) : a2 + a3 = 65536 * (a4 + a5) + (256 * (p3 + p4) + (p2 + p3)) := by
  subst e2; subst e3; subst e4; omega
theorem pf_d {X r : Nat} (hr : r < 65536) : (65536 * X + r) / 65536 = X := by
  rw [Nat.mul_add_div (by decide), Nat.div_eq_of_lt hr, Nat.add_zero]
theorem pf_e {X r : Nat} (hr : r < 4294967296) : (4294967296 * X + r) / 4294967296 = X := by
  rw [Nat.mul_add_div (by decide), Nat.div_eq_of_lt hr, Nat.add_zero]
theorem pf_m {X Y Z S a4 a5 a6 p4 p5 p6 p7 : Nat} (e4 : a4 = 256 * a5 + p4) (e5 : a5 = 256 * a6 + p5) (e6 : a6 = 256 * p7 + p6) (h : S + p4 + p5 + p6 + p7 ≤ 64) : (4294967296 * X + (65536 * Y + (256 * Z + S)) + (a4 + a5 + a6 + p7)) % 128 = S + p4 + p5 + p6 + p7 := by
  have e : 4294967296 * X + (65536 * Y + (256 * Z + S)) + (a4 + a5 + a6 + p7) = 128 * (33554432 * X + 512 * Y + 2 * Z + 2 * a5 + 2 * a6 + 2 * p7) + (S + p4 + p5 + p6 + p7) := by
    subst e4; subst e5; subst e6; omega
  rw [e, Nat.mul_add_mod, Nat.mod_eq_of_lt (by omega)]
theorem ph1 {p0 p1 p2 : Nat} (h0 : p0 ≤ 8) (h1 : p1 ≤ 8) (h2 : p2 ≤ 8) : 256 * (p1 + p2) + (p0 + p1) < 65536 := by omega
theorem ph2 {p0 p1 p2 p3 p4 p5 p6 : Nat} (h0 : p0 ≤ 8) (h1 : p1 ≤ 8) (h2 : p2 ≤ 8) (h3 : p3 ≤ 8) (h4 : p4 ≤ 8) (h5 : p5 ≤ 8) (h6 : p6 ≤ 8) : 65536 * (256 * (p3 + p4 + p5 + p6) + (p2 + p3 + p4 + p5)) + (256 * (p1 + p2 + p3 + p4) + (p0 + p1 + p2 + p3)) < 4294967296 := by omega
theorem ph3 {p0 p1 p2 p3 p4 p5 p6 p7 : Nat} (h0 : p0 ≤ 8) (h1 : p1 ≤ 8) (h2 : p2 ≤ 8) (h3 : p3 ≤ 8) (h4 : p4 ≤ 8) (h5 : p5 ≤ 8) (h6 : p6 ≤ 8) (h7 : p7 ≤ 8) : p0 + p1 + p2 + p3 + p4 + p5 + p6 + p7 ≤ 64 := by omega
theorem ph4 {t a : Nat} (h : t < 648518346341351424) (h9 : a ≤ t) : t + a < 1297036692682702848 := by omega
theorem ph5 {t a : Nat} (h : t < 1297036692682702848) (h9 : a ≤ t) : t + a < 2594073385365405696 := by omega
theorem pfold {p0 p1 p2 p3 p4 p5 p6 p7 : Nat} (h0 : p0 ≤ 8) (h1 : p1 ≤ 8) (h2 : p2 ≤ 8) (h3 : p3 ≤ 8) (h4 : p4 ≤ 8) (h5 : p5 ≤ 8) (h6 : p6 ≤ 8) (h7 : p7 ≤ 8) {t y z : Nat} (ht : t = 256 * (256 * (256 * (256 * (256 * (256 * (256 * p7 + p6) + p5) + p4) + p3) + p2) + p1) + p0) (hy : y = t + t / 256) (hz : z = y + y / 65536) :
    t < 648518346341351424 ∧ y < 1297036692682702848 ∧ z < 2594073385365405696 ∧ (z + z / 4294967296) % 128 = p0 + p1 + p2 + p3 + p4 + p5 + p6 + p7 := by
  obtain ⟨a6, e6⟩ : ∃ a, a = 256 * p7 + p6 := ⟨_, rfl⟩
  obtain ⟨a5, e5⟩ : ∃ a, a = 256 * a6 + p5 := ⟨_, rfl⟩
  obtain ⟨a4, e4⟩ : ∃ a, a = 256 * a5 + p4 := ⟨_, rfl⟩
  obtain ⟨a3, e3⟩ : ∃ a, a = 256 * a4 + p3 := ⟨_, rfl⟩
  obtain ⟨a2, e2⟩ : ∃ a, a = 256 * a3 + p2 := ⟨_, rfl⟩
  obtain ⟨a1, e1⟩ : ∃ a, a = 256 * a2 + p1 := ⟨_, rfl⟩
  have et : t = 256 * a1 + p0 := by rw [ht, e1, e2, e3, e4, e5, e6]
  have b7 : p7 < 9 := Nat.lt_succ_of_le h7
  have b6 : a6 < 2304 := pf_bd e6 b7 h6 rfl
  have b5 : a5 < 589824 := pf_bd e5 b6 h5 rfl
  have b4 : a4 < 150994944 := pf_bd e4 b5 h4 rfl
  have b3 : a3 < 38654705664 := pf_bd e3 b4 h3 rfl
  have b2 : a2 < 9895604649984 := pf_bd e2 b3 h2 rfl
  have b1 : a1 < 2533274790395904 := pf_bd e1 b2 h1 rfl
  have bt : t < 648518346341351424 := pf_bd et b1 h0 rfl
  have q1 : t / 256 = a1 := by rw [et, Nat.mul_add_div (by decide), Nat.div_eq_of_lt (Nat.lt_of_le_of_lt h0 (by decide)), Nat.add_zero]
  rw [q1] at hy
  have ey : y = 65536 * (a2 + a3) + (256 * (p1 + p2) + (p0 + p1)) := hy.trans (pf_y et e1 e2)
  have q2 : y / 65536 = a2 + a3 := by
    rw [ey]
    exact pf_d (ph1 h0 h1 h2)
  rw [q2] at hz
  have ez := pf_z ey hz (pf_c e2 e3 e4) (pf_c e4 e5 e6)
  have q3 : z / 4294967296 = a4 + a5 + a6 + p7 := by
    rw [ez]
    exact pf_e (ph2 h0 h1 h2 h3 h4 h5 h6)
  have by1 : y < 1297036692682702848 := by
    have h9 : a1 ≤ t := by rw [et]; exact Nat.le_trans (Nat.le_mul_of_pos_left _ (by decide)) (Nat.le_add_right _ _)
    rw [hy]; exact ph4 bt h9
  have bz : z < 2594073385365405696 := by
    have h9 : a2 + a3 ≤ y := by rw [ey]; exact Nat.le_trans (Nat.le_mul_of_pos_left _ (by decide)) (Nat.le_add_right _ _)
    rw [hz]; exact ph5 by1 h9
  refine ⟨bt, by1, bz, ?_⟩
  rw [q3, ez, pf_m e4 e5 e6 (ph3 h0 h1 h2 h3 h4 h5 h6 h7)]
theorem uN_bc1 (x : Int64) : uN (bc1 x) = pn1 (pmk 85 8) (uN x) := by
  have e1 : uN (x.toUInt64 >>> ((1 : Int32).toInt64.toUInt64 &&& Int64.toUInt64 63)).toInt64 = uN x / 2 := uN_sk x (k := 1) (by decide)
  have e2 : uN (6148914691236517205 : Int64) = pmk 85 8 := by decide +kernel
  have e3 : uN ((x.toUInt64 >>> ((1 : Int32).toInt64.toUInt64 &&& Int64.toUInt64 63)).toInt64 &&& 6148914691236517205) = uN x / 2 &&& pmk 85 8 := by rw [uN_and, e1, e2]
  unfold bc1 pn1
  rw [uN_sub (by rw [e3]; exact Nat.le_trans Nat.and_le_left (Nat.div_le_self _ _)), e3]
theorem uN_bc2 {x : Int64} {v : Nat} (hx : uN x = v) (hb : pn2 (pmk 51 8) v < 18446744073709551616) : uN (bc2 x) = pn2 (pmk 51 8) v := by
  have e1 : uN (x.toUInt64 >>> ((2 : Int32).toInt64.toUInt64 &&& Int64.toUInt64 63)).toInt64 = uN x / 4 := uN_sk x (k := 2) (by decide)
  have e2 : uN (3689348814741910323 : Int64) = pmk 51 8 := by decide +kernel
  unfold bc2
  rw [uN_add, uN_and, uN_and, e1, e2, hx]
  exact Nat.mod_eq_of_lt hb
theorem uN_bc3 {x : Int64} {v : Nat} (hx : uN x = v) (hb : v + v / 16 < 18446744073709551616) : uN (bc3 x) = pn3 (pmk 15 8) v := by
  have e1 : uN (x.toUInt64 >>> ((4 : Int32).toInt64.toUInt64 &&& Int64.toUInt64 63)).toInt64 = uN x / 16 := uN_sk x (k := 4) (by decide)
  have e2 : uN (1085102592571150095 : Int64) = pmk 15 8 := by decide +kernel
  unfold bc3 pn3
  rw [uN_and, uN_add, e1, e2, hx, Nat.mod_eq_of_lt hb]
theorem uN_bc4 {x : Int64} {v : Nat} (hx : uN x = v) (hb : v + v / 256 < 18446744073709551616) : uN (bc4 x) = v + v / 256 := by
  have e1 : uN (x.toUInt64 >>> ((8 : Int32).toInt64.toUInt64 &&& Int64.toUInt64 63)).toInt64 = uN x / 256 := uN_sk x (k := 8) (by decide)
  unfold bc4
  rw [uN_add, e1, hx, Nat.mod_eq_of_lt hb]
theorem uN_bc5 {x : Int64} {v : Nat} (hx : uN x = v) (hb : v + v / 65536 < 18446744073709551616) : uN (bc5 x) = v + v / 65536 := by
  have e1 : uN (x.toUInt64 >>> ((16 : Int32).toInt64.toUInt64 &&& Int64.toUInt64 63)).toInt64 = uN x / 65536 := uN_sk x (k := 16) (by decide)
  unfold bc5
  rw [uN_add, e1, hx, Nat.mod_eq_of_lt hb]
theorem uN_bc6 {x : Int64} {v : Nat} (hx : uN x = v) (hb : v + v / 4294967296 < 18446744073709551616) : uN (bc6 x) = v + v / 4294967296 := by
  have e1 : uN (x.toUInt64 >>> ((32 : Int32).toInt64.toUInt64 &&& Int64.toUInt64 63)).toInt64 = uN x / 4294967296 := uN_sk x (k := 32) (by decide)
  unfold bc6
  rw [uN_add, e1, hx, Nat.mod_eq_of_lt hb]
theorem pg15 (u : Nat) : u % 4294967296 % 128 = u % 128 := by omega
theorem uN_low7 (x : Int64) : x.toInt32 &&& 127 = nI (uN x % 128) := by
  have h : x.toInt32.toBitVec.toNat = uN x % 4294967296 := by
    rw [Int64.toBitVec_toInt32, BitVec.signExtend_eq_setWidth_of_le _ (by decide), BitVec.toNat_setWidth]
    rfl
  rw [pk_and x.toInt32 (m := 127) 7 (by decide), h]
  exact congrArg nI (pg15 (uN x))
theorem pD_eq (u : Nat) : pD 8 u = 256 * (256 * (256 * (256 * (256 * (256 * (256 * pby (u / 256 / 256 / 256 / 256 / 256 / 256 / 256 % 256) + pby (u / 256 / 256 / 256 / 256 / 256 / 256 % 256)) + pby (u / 256 / 256 / 256 / 256 / 256 % 256)) + pby (u / 256 / 256 / 256 / 256 % 256)) + pby (u / 256 / 256 / 256 % 256)) + pby (u / 256 / 256 % 256)) + pby (u / 256 % 256)) + pby (u % 256) := by
  simp only [pD, Nat.mul_zero, Nat.zero_add]
theorem pS_eq (u : Nat) : pS 8 u = pby (u % 256) + pby (u / 256 % 256) + pby (u / 256 / 256 % 256) + pby (u / 256 / 256 / 256 % 256) + pby (u / 256 / 256 / 256 / 256 % 256) + pby (u / 256 / 256 / 256 / 256 / 256 % 256) + pby (u / 256 / 256 / 256 / 256 / 256 / 256 % 256) + pby (u / 256 / 256 / 256 / 256 / 256 / 256 / 256 % 256) := by
  simp only [pS]
  generalize pby (u / 256 / 256 / 256 / 256 / 256 / 256 / 256 % 256) = z0
  generalize pby (u / 256 / 256 / 256 / 256 / 256 / 256 % 256) = z1
  generalize pby (u / 256 / 256 / 256 / 256 / 256 % 256) = z2
  generalize pby (u / 256 / 256 / 256 / 256 % 256) = z3
  generalize pby (u / 256 / 256 / 256 % 256) = z4
  generalize pby (u / 256 / 256 % 256) = z5
  generalize pby (u / 256 % 256) = z6
  generalize pby (u % 256) = z7
  omega
theorem bcount_eq (x : Int64) : bcount x = nI (pS 8 (uN x)) := by
  have h1 := uN_bc1 x
  have l2 := pV_lt 8 (uN x)
  have h2 : uN (bc2 (bc1 x)) = pV 8 (uN x) := uN_bc2 h1 (pg12 l2).1
  have h3 := uN_bc3 h2 (pg12 l2).2
  rw [pT] at h3
  obtain ⟨b1, b2, b3, b4⟩ := pfold (pby_le _) (pby_le _) (pby_le _) (pby_le _) (pby_le _) (pby_le _) (pby_le _) (pby_le _) (pD_eq (uN x)) rfl rfl
  have h4 := uN_bc4 h3 (pg13 (Nat.lt_trans b1 (by decide)))
  have h5 := uN_bc5 h4 (pg13 (Nat.lt_trans b2 (by decide)))
  have h6 := uN_bc6 h5 (pg13 (Nat.lt_trans b3 (by decide)))
  unfold bcount
  rw [uN_low7, h6, b4, ← pS_eq]
def ncb (u : Nat) : Nat → Nat
  | 0 => 0
  | n + 1 => ncb u n + u / 2 ^ n % 2
theorem m_cnt_nat (x : Int64) : ∀ n, n ≤ 64 → m_cnt x n = ncb (uN x) n
  | 0, _ => rfl
  | n + 1, h => by
    rw [m_cnt, m_cnt_nat x n (by omega), hasBit_nat x (by omega), ncb]
    congr 1
    rcases Nat.mod_two_eq_zero_or_one (uN x / 2 ^ n) with e | e <;> simp [e]
theorem pb0 (u : Nat) : u % 256 % 2 = u % 2 := by omega
theorem pb1 (u : Nat) : u % 256 / 2 % 2 = u / 2 % 2 := by omega
theorem pb2 (u : Nat) : u % 256 / 4 % 2 = u / 4 % 2 := by omega
theorem pb3 (u : Nat) : u % 256 / 8 % 2 = u / 8 % 2 := by omega
theorem pb4 (u : Nat) : u % 256 / 16 % 2 = u / 16 % 2 := by omega
theorem pb5 (u : Nat) : u % 256 / 32 % 2 = u / 32 % 2 := by omega
theorem pb6 (u : Nat) : u % 256 / 64 % 2 = u / 64 % 2 := by omega
theorem pb7 (u : Nat) : u % 256 / 128 % 2 = u / 128 % 2 := by omega
theorem ncb_8 (u : Nat) : ncb u 8 = pby (u % 256) := by
  have t := (pby_tab ⟨u % 256, Nat.mod_lt _ (by decide)⟩).2.2.2.2
  dsimp only at t
  rw [t, pb0, pb1, pb2, pb3, pb4, pb5, pb6, pb7]
  simp only [ncb, Nat.zero_add, Nat.pow_zero, Nat.div_one]
theorem ncb_add (u : Nat) : ∀ n, ncb u (8 + n) = pby (u % 256) + ncb (u / 256) n
  | 0 => by rw [Nat.add_zero, ncb_8]; rfl
  | n + 1 => by
    have e : u / 2 ^ (8 + n) = u / 256 / 2 ^ n := by rw [Nat.pow_add, ← Nat.div_div_eq_div_mul]
    rw [← Nat.add_assoc, ncb, ncb_add u n, ncb, e]
    exact pg14
theorem ncb_pS : ∀ (k u : Nat), ncb u (8 * k) = pS k u
  | 0, _ => rfl
  | k + 1, u => by
    rw [show 8 * (k + 1) = 8 + 8 * k by omega, ncb_add, ncb_pS k, pS]
    exact Nat.add_comm _ _
/-- both counts are one -/
theorem bcount_cnt (x : Int64) : bcount x = nI (m_cnt x 64) := by
  rw [bcount_eq, m_cnt_nat x 64 (Nat.le_refl 64)]
  exact congrArg nI (ncb_pS 8 (uN x)).symm
