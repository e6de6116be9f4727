/-! ===== heights: a form without curl has a potential ===== -/
def hcu (h v : Nat → Nat → Int) (X Y : Nat) : Int := h X Y + v (X + 1) Y - h X (Y + 1) - v X Y
/-- nothing on the sides of the fields of the floor -/
def hsp (M : Nat → Bool) (h v : Nat → Nat → Int) : Prop := ∀ X Y, X < 10 → Y < 10 → M (10 * Y + X) = false → h X Y = 0 ∧ h X (Y + 1) = 0 ∧ v X Y = 0 ∧ v (X + 1) Y = 0
def hph (M : Nat → Bool) (p : Nat) : Prop := ∃ h v : Nat → Nat → Int, hsp M h v ∧ ∀ X Y, X < 10 → Y < 10 → hcu h v X Y = if 10 * Y + X = p then 1 else 0
theorem hph_0 {M : Nat → Bool} (h0 : M 0 = true) : hph M 0 := by
  refine ⟨fun X Y => if X = 0 ∧ Y = 0 then 1 else 0, fun _ _ => 0, fun X Y hX hY hM => ⟨?_, ?_, rfl, rfl⟩, fun X Y hX hY => ?_⟩
  · refine if_neg (fun z => ?_)
    rw [z.1, z.2, h0] at hM
    exact absurd hM (by decide)
  · exact if_neg (fun z => absurd z.2 (Nat.succ_ne_zero Y))
  · unfold hcu
    dsimp only
    rw [if_neg (fun z : X = 0 ∧ Y + 1 = 0 => absurd z.2 (Nat.succ_ne_zero Y))]
    by_cases q : X = 0 ∧ Y = 0
    · rw [if_pos q, if_pos (by omega)]
      rfl
    · rw [if_neg q, if_neg (by omega)]
      rfl
/-- along a row: the side at (xe, ye) of the second kind gets t more -/
def hbv (v : Nat → Nat → Int) (xe ye : Nat) (t : Int) : Nat → Nat → Int := fun X Y => if X = xe ∧ Y = ye then v X Y + t else v X Y
theorem hbv_y {v : Nat → Nat → Int} {xe ye X Y : Nat} {t : Int} (h : X = xe ∧ Y = ye) : hbv v xe ye t X Y = v X Y + t := if_pos h
theorem hbv_n {v : Nat → Nat → Int} {xe ye X Y : Nat} {t : Int} (h : ¬ (X = xe ∧ Y = ye)) : hbv v xe ye t X Y = v X Y := if_neg h
/-- over a side between (x, y) and (x + 1, y) -/
theorem hph_v {M : Nat → Bool} {h v : Nat → Nat → Int} {x y : Nat} {t : Int} (hx : x + 1 < 10) (hy : y < 10) (ha : M (10 * y + x) = true) (hb : M (10 * y + (x + 1)) = true) (hs : hsp M h v) : hsp M h (hbv v (x + 1) y t) ∧ ∀ X Y, X < 10 → Y < 10 → hcu h (hbv v (x + 1) y t) X Y = hcu h v X Y + (if 10 * Y + X = 10 * y + x then t else 0) - (if 10 * Y + X = 10 * y + (x + 1) then t else 0) := by
  refine ⟨fun X Y hX hY hM => ?_, fun X Y hX hY => ?_⟩
  · obtain ⟨a, b, c, d⟩ := hs X Y hX hY hM
    refine ⟨a, b, ?_, ?_⟩
    · rw [hbv_n (fun z => by rw [z.1, z.2, hb] at hM; exact absurd hM (by decide))]
      exact c
    · rw [hbv_n (fun z => by rw [show X = x by omega, z.2, ha] at hM; exact absurd hM (by decide))]
      exact d
  · unfold hcu
    by_cases q1 : X = x ∧ Y = y
    · rw [hbv_y (by omega), hbv_n (by omega), if_pos (by omega), if_neg (by omega)]
      omega
    · by_cases q2 : X = x + 1 ∧ Y = y
      · rw [hbv_n (by omega), hbv_y (by omega), if_neg (by omega), if_pos (by omega)]
        omega
      · rw [hbv_n (by omega), hbv_n (by omega), if_neg (by omega), if_neg (by omega)]
        omega
theorem hph_h {M : Nat → Bool} {h v : Nat → Nat → Int} {x y : Nat} {t : Int} (hx : x < 10) (hy : y + 1 < 10) (ha : M (10 * y + x) = true) (hb : M (10 * (y + 1) + x) = true) (hs : hsp M h v) : hsp M (hbv h x (y + 1) t) v ∧ ∀ X Y, X < 10 → Y < 10 → hcu (hbv h x (y + 1) t) v X Y = hcu h v X Y - (if 10 * Y + X = 10 * y + x then t else 0) + (if 10 * Y + X = 10 * (y + 1) + x then t else 0) := by
  refine ⟨fun X Y hX hY hM => ?_, fun X Y hX hY => ?_⟩
  · obtain ⟨a, b, c, d⟩ := hs X Y hX hY hM
    refine ⟨?_, ?_, c, d⟩
    · rw [hbv_n (fun z => by rw [z.1, z.2, hb] at hM; exact absurd hM (by decide))]
      exact a
    · rw [hbv_n (fun z => by rw [z.1, show Y = y by omega, ha] at hM; exact absurd hM (by decide))]
      exact b
  · unfold hcu
    by_cases q1 : X = x ∧ Y = y
    · rw [hbv_n (by omega), hbv_y (by omega), if_pos (by omega), if_neg (by omega)]
      omega
    · by_cases q2 : X = x ∧ Y = y + 1
      · rw [hbv_y (by omega), hbv_n (by omega), if_neg (by omega), if_pos (by omega)]
        omega
      · rw [hbv_n (by omega), hbv_n (by omega), if_neg (by omega), if_neg (by omega)]
        omega
theorem hph_s {M : Nat → Bool} {a b : Nat} (hMa : M a = true) (hMb : M b = true) (hA : A10 a b = true) (h : hph M a) : hph M b := by
  unfold A10 at hA
  simp only [Bool.and_eq_true, Bool.or_eq_true, decide_eq_true_iff] at hA
  obtain ⟨a1, b1, hA⟩ := hA
  obtain ⟨h, v, hs, hc⟩ := h
  rcases hA with ⟨e, e2⟩ | ⟨e, e2⟩ | e | e
  · obtain ⟨k1, k2⟩ := hph_v (t := -1) (x := a % 10) (y := a / 10) (by omega) (by omega) (by rw [show 10 * (a / 10) + a % 10 = a by omega]; exact hMa) (by rw [show 10 * (a / 10) + (a % 10 + 1) = b by omega]; exact hMb) hs
    refine ⟨_, _, k1, fun X Y hX hY => ?_⟩
    rw [k2 X Y hX hY, hc X Y hX hY, show 10 * (a / 10) + a % 10 = a by omega, show 10 * (a / 10) + (a % 10 + 1) = b by omega]
    (repeat' split) <;> omega
  · obtain ⟨k1, k2⟩ := hph_v (t := 1) (x := b % 10) (y := b / 10) (by omega) (by omega) (by rw [show 10 * (b / 10) + b % 10 = b by omega]; exact hMb) (by rw [show 10 * (b / 10) + (b % 10 + 1) = a by omega]; exact hMa) hs
    refine ⟨_, _, k1, fun X Y hX hY => ?_⟩
    rw [k2 X Y hX hY, hc X Y hX hY, show 10 * (b / 10) + b % 10 = b by omega, show 10 * (b / 10) + (b % 10 + 1) = a by omega]
    (repeat' split) <;> omega
  · obtain ⟨k1, k2⟩ := hph_h (t := 1) (x := a % 10) (y := a / 10) (by omega) (by omega) (by rw [show 10 * (a / 10) + a % 10 = a by omega]; exact hMa) (by rw [show 10 * (a / 10 + 1) + a % 10 = b by omega]; exact hMb) hs
    refine ⟨_, _, k1, fun X Y hX hY => ?_⟩
    rw [k2 X Y hX hY, hc X Y hX hY, show 10 * (a / 10) + a % 10 = a by omega, show 10 * (a / 10 + 1) + a % 10 = b by omega]
    (repeat' split) <;> omega
  · obtain ⟨k1, k2⟩ := hph_h (t := -1) (x := b % 10) (y := b / 10) (by omega) (by omega) (by rw [show 10 * (b / 10) + b % 10 = b by omega]; exact hMb) (by rw [show 10 * (b / 10 + 1) + b % 10 = a by omega]; exact hMa) hs
    refine ⟨_, _, k1, fun X Y hX hY => ?_⟩
    rw [k2 X Y hX hY, hc X Y hX hY, show 10 * (b / 10) + b % 10 = b by omega, show 10 * (b / 10 + 1) + b % 10 = a by omega]
    (repeat' split) <;> omega
theorem hph_r {M : Nat → Bool} {p : Nat} (h0 : M 0 = true) (h : rch M A10 0 p) : hph M p := (h (fun x => M x = true ∧ hph M x) ⟨h0, hph_0 h0⟩ (fun _ _ z hb hA => ⟨hb, hph_s z.1 hb hA z.2⟩)).2
/-- any curl off the floor can be had -/
theorem hph_g {M : Nat → Bool} (hr : ∀ p, p < 100 → M p = true → hph M p) (g : Nat → Int) : ∀ n, n ≤ 100 → ∃ h v : Nat → Nat → Int, hsp M h v ∧ ∀ X Y, X < 10 → Y < 10 → hcu h v X Y = if 10 * Y + X < n ∧ M (10 * Y + X) = true then g (10 * Y + X) else 0
  | 0, _ => ⟨fun _ _ => 0, fun _ _ => 0, fun _ _ _ _ _ => ⟨rfl, rfl, rfl, rfl⟩, fun X Y _ _ => by rw [if_neg (fun z => absurd z.1 (Nat.not_lt_zero _))]; rfl⟩
  | n + 1, hn => by
    obtain ⟨h, v, hs, hc⟩ := hph_g hr g n (by omega)
    cases hM : M n with
    | false =>
      refine ⟨h, v, hs, fun X Y hX hY => ?_⟩
      rw [hc X Y hX hY]
      by_cases q : 10 * Y + X = n
      · rw [if_neg (by omega), if_neg (fun z => by rw [q, hM] at z; exact absurd z.2 (by decide))]
      · by_cases q2 : 10 * Y + X < n ∧ M (10 * Y + X) = true
        · rw [if_pos q2, if_pos ⟨by omega, q2.2⟩]
        · rw [if_neg q2, if_neg (fun z => q2 ⟨by omega, z.2⟩)]
    | true =>
      obtain ⟨h', v', hs', hc'⟩ := hr n (by omega) hM
      refine ⟨fun X Y => h X Y + g n * h' X Y, fun X Y => v X Y + g n * v' X Y, fun X Y hX hY hf => ?_, fun X Y hX hY => ?_⟩
      · obtain ⟨a, b, c, d⟩ := hs X Y hX hY hf
        obtain ⟨a', b', c', d'⟩ := hs' X Y hX hY hf
        dsimp only
        rw [a, b, c, d, a', b', c', d', Int.mul_zero]
        exact ⟨rfl, rfl, rfl, rfl⟩
      · have e : hcu (fun X Y => h X Y + g n * h' X Y) (fun X Y => v X Y + g n * v' X Y) X Y = hcu h v X Y + g n * hcu h' v' X Y := by
          unfold hcu
          dsimp only
          rw [Int.mul_sub, Int.mul_sub, Int.mul_add]
          omega
        rw [e, hc X Y hX hY, hc' X Y hX hY]
        by_cases q : 10 * Y + X = n
        · rw [if_neg (by omega), if_pos q, if_pos ⟨by omega, by rw [q]; exact hM⟩, q]
          omega
        · rw [if_neg q]
          by_cases q2 : 10 * Y + X < n ∧ M (10 * Y + X) = true
          · rw [if_pos q2, if_pos ⟨by omega, q2.2⟩]
            omega
          · rw [if_neg q2, if_neg (fun z => q2 ⟨by omega, z.2⟩)]
            omega
/-- its potential -/
def hSum (f : Nat → Int) : Nat → Int
  | 0 => 0
  | n + 1 => hSum f n + f n
def hPot (h v : Nat → Nat → Int) (X Y : Nat) : Int := hSum (fun k => h k 0) X + hSum (v X) Y
theorem hP_v (h v : Nat → Nat → Int) (X Y : Nat) : hPot h v X (Y + 1) - hPot h v X Y = v X Y := by
  show hSum (fun k => h k 0) X + (hSum (v X) Y + v X Y) - (hSum (fun k => h k 0) X + hSum (v X) Y) = v X Y
  omega
theorem hP_h {h v : Nat → Nat → Int} (hc : ∀ X Y, X < 10 → Y < 10 → hcu h v X Y = 0) {X : Nat} (hX : X < 10) : ∀ Y, Y ≤ 10 → hPot h v (X + 1) Y - hPot h v X Y = h X Y
  | 0, _ => by
    show hSum (fun k => h k 0) X + h X 0 + 0 - (hSum (fun k => h k 0) X + 0) = h X 0
    omega
  | Y + 1, hY => by
    have ih := hP_h hc hX Y (by omega)
    have c := hc X Y hX (by omega)
    have e1 := hP_v h v (X + 1) Y
    have e2 := hP_v h v X Y
    unfold hcu at c
    omega
/-- a form whose curl is 0 on the floor is that of a potential there -/
theorem h_pot {M : Nat → Bool} (hr : ∀ p, p < 100 → M p = true → hph M p) {h v : Nat → Nat → Int} (hf : ∀ X Y, X < 10 → Y < 10 → M (10 * Y + X) = false → hcu h v X Y = 0) : ∃ H : Nat → Nat → Int, ∀ X Y, X < 10 → Y < 10 → M (10 * Y + X) = false → H (X + 1) Y - H X Y = h X Y ∧ H (X + 1) (Y + 1) - H X (Y + 1) = h X (Y + 1) ∧ H X (Y + 1) - H X Y = v X Y ∧ H (X + 1) (Y + 1) - H (X + 1) Y = v (X + 1) Y := by
  obtain ⟨h', v', hs, hc⟩ := hph_g hr (fun p => - hcu h v (p % 10) (p / 10)) 100 (Nat.le_refl _)
  have z : ∀ X Y, X < 10 → Y < 10 → hcu (fun X Y => h X Y + h' X Y) (fun X Y => v X Y + v' X Y) X Y = 0 := by
    intro X Y hX hY
    have e : hcu (fun X Y => h X Y + h' X Y) (fun X Y => v X Y + v' X Y) X Y = hcu h v X Y + hcu h' v' X Y := by
      unfold hcu
      dsimp only
      omega
    rw [e, hc X Y hX hY]
    cases q : M (10 * Y + X) with
    | false => rw [if_neg (fun z => absurd z.2 (by decide)), hf X Y hX hY q]; rfl
    | true =>
      rw [if_pos ⟨by omega, rfl⟩, show (10 * Y + X) % 10 = X by omega, show (10 * Y + X) / 10 = Y by omega]
      omega
  refine ⟨hPot (fun X Y => h X Y + h' X Y) (fun X Y => v X Y + v' X Y), fun X Y hX hY hM => ?_⟩
  obtain ⟨a, b, c, d⟩ := hs X Y hX hY hM
  refine ⟨?_, ?_, ?_, ?_⟩
  · rw [hP_h z hX Y (by omega), a]; omega
  · rw [hP_h z hX (Y + 1) (by omega), b]; omega
  · rw [hP_v, c]; omega
  · rw [hP_v, d]; omega
/-! ===== the heights of a laying ===== -/
def hsg (n : Nat) : Int := if n % 2 = 1 then 1 else -1
theorem hsg_s (n : Nat) : hsg (n + 1) = - hsg n := by
  unfold hsg
  by_cases h : n % 2 = 1
  · rw [if_pos h, if_neg (by omega)]
  · rw [if_neg h, if_pos (by omega)]; rfl
theorem hsg_2 (n : Nat) : hsg (n + 2) = hsg n := by
  rw [hsg_s, hsg_s, Int.neg_neg]
def hcr (C : Nat → Bool) (X Y : Nat) : Bool := decide (1 ≤ X ∧ X ≤ 8 ∧ 2 ≤ Y ∧ Y ≤ 9) && C (8 * (Y - 2) + (X - 1))
def hcl (A : Nat → Bool) (X Y : Nat) : Bool := decide (2 ≤ X ∧ X ≤ 9 ∧ 1 ≤ Y ∧ Y ≤ 8) && A (8 * (Y - 1) + (X - 2))
def hk3 (b : Bool) : Int := if b then -3 else 1
def hwh (C : Nat → Bool) (X Y : Nat) : Int := hsg (X + Y) * hk3 (hcr C X Y)
def hwv (A : Nat → Bool) (X Y : Nat) : Int := - hsg (X + Y) * hk3 (hcl A X Y)
theorem hk_1 {a b c d : Bool} (h : bN a + bN b + bN c + bN d = 1) : hk3 d + hk3 a + hk3 b + hk3 c = 0 := by
  cases a <;> cases b <;> cases c <;> cases d <;> simp_all [bN, hk3]
theorem hw_ar {s a b c d : Int} (h : a + b + c + d = 0) : s * a + - -s * b - -s * c - -s * d = 0 := by
  have e : s * a + s * b + s * c + s * d = 0 := by rw [← Int.mul_add, ← Int.mul_add, ← Int.mul_add, h, Int.mul_zero]
  rw [Int.neg_neg, Int.neg_mul, Int.neg_mul]
  omega
theorem hw_0 {on A C : Nat → Bool} (hl : LY on A C) {X Y : Nat} (x1 : 1 ≤ X) (x8 : X ≤ 8) (y1 : 1 ≤ Y) (y8 : Y ≤ 8) (ho : on (8 * (Y - 1) + (X - 1)) = true) : hcu (hwh C) (hwv A) X Y = 0 := by
  have e := hl.2.2.1 (8 * (Y - 1) + (X - 1))
  unfold covN at e
  rw [ho] at e
  have c1 : hcr C X Y = (decide (8 ≤ 8 * (Y - 1) + (X - 1)) && C (8 * (Y - 1) + (X - 1) - 8)) := by
    unfold hcr
    by_cases q : 2 ≤ Y
    · rw [decide_eq_true (show 1 ≤ X ∧ X ≤ 8 ∧ 2 ≤ Y ∧ Y ≤ 9 by omega), decide_eq_true (show 8 ≤ 8 * (Y - 1) + (X - 1) by omega), show 8 * (Y - 2) + (X - 1) = 8 * (Y - 1) + (X - 1) - 8 by omega]
    · rw [decide_eq_false (show ¬ (1 ≤ X ∧ X ≤ 8 ∧ 2 ≤ Y ∧ Y ≤ 9) by omega), decide_eq_false (show ¬ 8 ≤ 8 * (Y - 1) + (X - 1) by omega), Bool.false_and, Bool.false_and]
  have c2 : hcl A (X + 1) Y = A (8 * (Y - 1) + (X - 1)) := by
    unfold hcl
    rw [decide_eq_true (show 2 ≤ X + 1 ∧ X + 1 ≤ 9 ∧ 1 ≤ Y ∧ Y ≤ 8 by omega), Bool.true_and, show X + 1 - 2 = X - 1 by omega]
  have c3 : hcr C X (Y + 1) = C (8 * (Y - 1) + (X - 1)) := by
    unfold hcr
    rw [decide_eq_true (show 1 ≤ X ∧ X ≤ 8 ∧ 2 ≤ Y + 1 ∧ Y + 1 ≤ 9 by omega), Bool.true_and, show Y + 1 - 2 = Y - 1 by omega]
  have c4 : hcl A X Y = (decide (1 ≤ 8 * (Y - 1) + (X - 1)) && A (8 * (Y - 1) + (X - 1) - 1)) := by
    unfold hcl
    by_cases q : 2 ≤ X
    · rw [decide_eq_true (show 2 ≤ X ∧ X ≤ 9 ∧ 1 ≤ Y ∧ Y ≤ 8 by omega), decide_eq_true (show 1 ≤ 8 * (Y - 1) + (X - 1) by omega), show 8 * (Y - 1) + (X - 2) = 8 * (Y - 1) + (X - 1) - 1 by omega]
    · rw [decide_eq_false (show ¬ (2 ≤ X ∧ X ≤ 9 ∧ 1 ≤ Y ∧ Y ≤ 8) by omega), Bool.false_and]
      by_cases q2 : 1 ≤ 8 * (Y - 1) + (X - 1)
      · cases z : A (8 * (Y - 1) + (X - 1) - 1) with
        | false => rw [Bool.and_false]
        | true =>
          have := hl.1 _ z
          omega
      · rw [decide_eq_false q2, Bool.false_and]
  unfold hcu hwh hwv
  rw [c1, c2, c3, c4, show X + 1 + Y = X + Y + 1 by omega, show X + (Y + 1) = X + Y + 1 by omega, hsg_s]
  have k := hk_1 e
  generalize hsg (X + Y) = s
  rw [show ((decide (8 ≤ 8 * (Y - 1) + (X - 1)) && C (8 * (Y - 1) + (X - 1) - 8))) = (decide (8 ≤ 8 * (Y - 1) + (X - 1)) && C (8 * (Y - 1) + (X - 1) - 8)) from rfl]
  have k2 : ∀ a b c d : Int, d + a + b + c = 0 → s * d + - -s * a - -s * b - -s * c = 0 := fun a b c d h => hw_ar h
  exact k2 _ _ _ _ k
theorem mo_f {fl : Int64} {X Y : Nat} (hX : X < 10) (hY : Y < 10) (h : mOut fl (10 * Y + X) = false) : 1 ≤ X ∧ X ≤ 8 ∧ 1 ≤ Y ∧ Y ≤ 8 ∧ bfx fl (8 * (Y - 1) + (X - 1)) = true := by
  unfold mOut rng i10 at h
  rw [Bool.or_eq_false_iff, Bool.or_eq_false_iff, Bool.or_eq_false_iff, Bool.or_eq_false_iff, decide_eq_false_iff_not, decide_eq_false_iff_not, decide_eq_false_iff_not, decide_eq_false_iff_not, show (10 * Y + X) / 10 = Y by omega, show (10 * Y + X) % 10 = X by omega] at h
  refine ⟨by omega, by omega, by omega, by omega, ?_⟩
  have k := h.2
  cases q : bfx fl (8 * (Y - 1) + (X - 1)) with
  | true => rfl
  | false => rw [q] at k; exact absurd k (by decide)
theorem mo_t {fl : Int64} {X Y : Nat} (x1 : 1 ≤ X) (x8 : X ≤ 8) (y1 : 1 ≤ Y) (y8 : Y ≤ 8) (h : bfx fl (8 * (Y - 1) + (X - 1)) = true) : mOut fl (10 * Y + X) = false := by
  unfold mOut rng i10
  rw [show (10 * Y + X) / 10 = Y by omega, show (10 * Y + X) % 10 = X by omega, h, decide_eq_false (by omega), decide_eq_false (by omega), decide_eq_false (by omega), decide_eq_false (by omega)]
  rfl
/-- the heights of a laying, up to a constant -/
def hHt (fl : Int64) (A C : Nat → Bool) (H : Nat → Nat → Int) : Prop := ∀ X Y, 1 ≤ X → X ≤ 8 → 1 ≤ Y → Y ≤ 8 → bfx fl (8 * (Y - 1) + (X - 1)) = true → H (X + 1) Y - H X Y = hwh C X Y ∧ H (X + 1) (Y + 1) - H X (Y + 1) = hwh C X (Y + 1) ∧ H X (Y + 1) - H X Y = hwv A X Y ∧ H (X + 1) (Y + 1) - H (X + 1) Y = hwv A (X + 1) Y
theorem hHt_ex {fl : Int64} {A C : Nat → Bool} (hw : cFr (mOut fl) A10 100 = 1) (hl : LY (bfx fl) A C) : ∃ H, hHt fl A C H := by
  have h0 : mOut fl 0 = true := rfl
  obtain ⟨H, hH⟩ := h_pot (M := mOut fl) (fun p hp hM => hph_r h0 (sc_two h0 hw p hp hM)) (h := hwh C) (v := hwv A) (fun X Y hX hY hM => by
    obtain ⟨x1, x8, y1, y8, ho⟩ := mo_f hX hY hM
    exact hw_0 hl x1 x8 y1 y8 ho)
  exact ⟨H, fun X Y x1 x8 y1 y8 ho => hH X Y (by omega) (by omega) (mo_t x1 x8 y1 y8 ho)⟩
noncomputable def zH (fl al ac : Int64) : Nat → Nat → Int := Classical.epsilon (hHt fl (bfx al) (bfx ac))
theorem zH_t {fl al ac : Int64} (hw : cFr (mOut fl) A10 100 = 1) (hl : LY (bfx fl) (bfx al) (bfx ac)) : hHt fl (bfx al) (bfx ac) (zH fl al ac) := Classical.epsilon_spec (hHt_ex hw hl)
/-! points -/
def onB (on : Nat → Bool) (x y : Nat) : Bool := decide (x < 8) && (decide (y < 8) && on (8 * y + x))
def onL (on : Nat → Bool) (x y : Nat) : Bool := decide (1 ≤ x) && onB on (x - 1) y
def onU (on : Nat → Bool) (x y : Nat) : Bool := decide (1 ≤ y) && onB on x (y - 1)
def onLU (on : Nat → Bool) (x y : Nat) : Bool := decide (1 ≤ x) && onU on (x - 1) y
def hpt (on : Nat → Bool) (p : Nat) : Bool := onB on (p % 9) (p / 9) || (onL on (p % 9) (p / 9) || (onU on (p % 9) (p / 9) || onLU on (p % 9) (p / 9)))
def hrE (on C : Nat → Bool) (p : Nat) : Bool := (onU on (p % 9) (p / 9) || onB on (p % 9) (p / 9)) && !onU C (p % 9) (p / 9)
def hdE (on A : Nat → Bool) (p : Nat) : Bool := (onL on (p % 9) (p / 9) || onB on (p % 9) (p / 9)) && !onL A (p % 9) (p / 9)
noncomputable def zG (fl al ac : Int64) (p : Nat) : Int := zH fl al ac (p % 9 + 1) (p / 9 + 1)
theorem onB_t {on : Nat → Bool} {x y : Nat} (h : onB on x y = true) : x < 8 ∧ y < 8 ∧ on (8 * y + x) = true := by
  unfold onB at h
  rw [Bool.and_eq_true, Bool.and_eq_true, decide_eq_true_iff, decide_eq_true_iff] at h
  exact h
theorem onB_i {on : Nat → Bool} {x y : Nat} (h1 : x < 8) (h2 : y < 8) (h : on (8 * y + x) = true) : onB on x y = true := by
  unfold onB
  rw [decide_eq_true h1, decide_eq_true h2, h]
  rfl
theorem onU_t {on : Nat → Bool} {x y : Nat} (h : onU on x y = true) : 1 ≤ y ∧ x < 8 ∧ y - 1 < 8 ∧ on (8 * (y - 1) + x) = true := by
  unfold onU at h
  rw [Bool.and_eq_true, decide_eq_true_iff] at h
  exact ⟨h.1, onB_t h.2⟩
theorem onL_t {on : Nat → Bool} {x y : Nat} (h : onL on x y = true) : 1 ≤ x ∧ x - 1 < 8 ∧ y < 8 ∧ on (8 * y + (x - 1)) = true := by
  unfold onL at h
  rw [Bool.and_eq_true, decide_eq_true_iff] at h
  exact ⟨h.1, onB_t h.2⟩
theorem hcr_U {C : Nat → Bool} {x y : Nat} (hx : x < 8) (hy : y < 9) : hcr C (x + 1) (y + 1) = onU C x y := by
  unfold hcr onU onB
  by_cases q : 1 ≤ y
  · rw [decide_eq_true (show 1 ≤ x + 1 ∧ x + 1 ≤ 8 ∧ 2 ≤ y + 1 ∧ y + 1 ≤ 9 by omega), decide_eq_true q, decide_eq_true hx, decide_eq_true (show y - 1 < 8 by omega), show 8 * (y + 1 - 2) + (x + 1 - 1) = 8 * (y - 1) + x by omega]
    rfl
  · rw [decide_eq_false (show ¬ (1 ≤ x + 1 ∧ x + 1 ≤ 8 ∧ 2 ≤ y + 1 ∧ y + 1 ≤ 9) by omega), decide_eq_false q, Bool.false_and, Bool.false_and]
theorem hcl_L {A : Nat → Bool} {x y : Nat} (hx : x < 9) (hy : y < 8) : hcl A (x + 1) (y + 1) = onL A x y := by
  unfold hcl onL onB
  by_cases q : 1 ≤ x
  · rw [decide_eq_true (show 2 ≤ x + 1 ∧ x + 1 ≤ 9 ∧ 1 ≤ y + 1 ∧ y + 1 ≤ 8 by omega), decide_eq_true q, decide_eq_true hy, decide_eq_true (show x - 1 < 8 by omega), show 8 * (y + 1 - 1) + (x + 1 - 2) = 8 * y + (x - 1) by omega]
    rfl
  · rw [decide_eq_false (show ¬ (2 ≤ x + 1 ∧ x + 1 ≤ 9 ∧ 1 ≤ y + 1 ∧ y + 1 ≤ 8) by omega), decide_eq_false q, Bool.false_and, Bool.false_and]
section HPT
variable {fl al ac : Int64} {p : Nat}
theorem zG_r (hH : hHt fl (bfx al) (bfx ac) (zH fl al ac)) (hx : p % 9 < 8) (hp : p < 81) (h : (onU (bfx fl) (p % 9) (p / 9) || onB (bfx fl) (p % 9) (p / 9)) = true) : zG fl al ac (p + 1) - zG fl al ac p = hsg (p % 9 + p / 9) * hk3 (onU (bfx ac) (p % 9) (p / 9)) := by
  unfold zG
  rw [show (p + 1) % 9 = p % 9 + 1 by omega, show (p + 1) / 9 = p / 9 by omega, ← hcr_U hx (show p / 9 < 9 by omega), ← hsg_2 (p % 9 + p / 9), show p % 9 + p / 9 + 2 = p % 9 + 1 + (p / 9 + 1) by omega]
  rw [Bool.or_eq_true] at h
  rcases h with h | h
  · obtain ⟨k1, -, k3, k4⟩ := onU_t h
    have e := (hH (p % 9 + 1) (p / 9) (by omega) (by omega) k1 (by omega) (by rw [Nat.add_sub_cancel]; exact k4)).2.1
    exact e
  · obtain ⟨-, k3, k4⟩ := onB_t h
    exact (hH (p % 9 + 1) (p / 9 + 1) (by omega) (by omega) (by omega) (by omega) (by rw [Nat.add_sub_cancel, Nat.add_sub_cancel]; exact k4)).1
theorem zG_d (hH : hHt fl (bfx al) (bfx ac) (zH fl al ac)) (hy : p / 9 < 8) (h : (onL (bfx fl) (p % 9) (p / 9) || onB (bfx fl) (p % 9) (p / 9)) = true) : zG fl al ac (p + 9) - zG fl al ac p = - hsg (p % 9 + p / 9) * hk3 (onL (bfx al) (p % 9) (p / 9)) := by
  unfold zG
  rw [show (p + 9) % 9 = p % 9 by omega, show (p + 9) / 9 = p / 9 + 1 by omega, ← hcl_L (show p % 9 < 9 by omega) hy, ← hsg_2 (p % 9 + p / 9), show p % 9 + p / 9 + 2 = p % 9 + 1 + (p / 9 + 1) by omega]
  rw [Bool.or_eq_true] at h
  rcases h with h | h
  · obtain ⟨k1, k2, k3, k4⟩ := onL_t h
    have e := (hH (p % 9) (p / 9 + 1) k1 (by omega) (by omega) (by omega) (by rw [Nat.add_sub_cancel]; exact k4)).2.2.2
    exact e
  · obtain ⟨k2, k3, k4⟩ := onB_t h
    exact (hH (p % 9 + 1) (p / 9 + 1) (by omega) (by omega) (by omega) (by omega) (by rw [Nat.add_sub_cancel, Nat.add_sub_cancel]; exact k4)).2.2.1
theorem zG_ro (hH : hHt fl (bfx al) (bfx ac) (zH fl al ac)) (hx : p % 9 < 8) (hp : p < 81) (h : hrE (bfx fl) (bfx ac) p = true) : zG fl al ac (p + 1) - zG fl al ac p = hsg (p % 9 + p / 9) := by
  unfold hrE at h
  rw [Bool.and_eq_true, Bool.not_eq_true'] at h
  rw [zG_r hH hx hp h.1, h.2]
  exact Int.mul_one _
theorem zG_do (hH : hHt fl (bfx al) (bfx ac) (zH fl al ac)) (hy : p / 9 < 8) (h : hdE (bfx fl) (bfx al) p = true) : zG fl al ac (p + 9) - zG fl al ac p = - hsg (p % 9 + p / 9) := by
  unfold hdE at h
  rw [Bool.and_eq_true, Bool.not_eq_true'] at h
  rw [zG_d hH hy h.1, h.2]
  exact Int.mul_one _
end HPT
/-! all points are reached -/
def hclK (on A C : Nat → Bool) (K : Nat → Prop) : Prop := (∀ p, p < 81 → p % 9 < 8 → hrE on C p = true → (K p ↔ K (p + 1))) ∧ ∀ p, p < 81 → p / 9 < 8 → hdE on A p = true → (K p ↔ K (p + 9))
def hTL (f : Nat) : Nat := 9 * (f / 8) + f % 8
theorem one4 {a b c d : Bool} (e : bN a + bN b + bN c + bN d = 1) : (a = true ∧ b = false ∧ c = false ∧ d = false) ∨ (a = false ∧ b = true ∧ c = false ∧ d = false) ∨ (a = false ∧ b = false ∧ c = true ∧ d = false) ∨ (a = false ∧ b = false ∧ c = false ∧ d = true) := by
  cases a <;> cases b <;> cases c <;> cases d <;> simp_all [bN]
theorem four_K {a b c d : Bool} {T R L B : Prop} (e : bN a + bN b + bN c + bN d = 1) (h1 : d = false → (T ↔ R)) (h2 : a = false → (R ↔ B)) (h3 : b = false → (L ↔ B)) (h4 : c = false → (T ↔ L)) : (T ↔ R) ∧ (T ↔ L) ∧ (T ↔ B) := by
  rcases one4 e with ⟨-, y, z, w⟩ | ⟨x, -, z, w⟩ | ⟨x, y, -, w⟩ | ⟨x, y, z, -⟩
  · exact ⟨h1 w, h4 z, (h4 z).trans (h3 y)⟩
  · exact ⟨h1 w, h4 z, (h1 w).trans (h2 x)⟩
  · exact ⟨h1 w, ((h1 w).trans (h2 x)).trans (h3 y).symm, (h1 w).trans (h2 x)⟩
  · exact ⟨((h4 z).trans (h3 y)).trans (h2 x).symm, h4 z, (h4 z).trans (h3 y)⟩
section HCO
variable {on A C : Nat → Bool} {K : Nat → Prop} {f : Nat}
theorem eU_f (hf : f < 64) : onU C (f % 8) (f / 8) = (decide (8 ≤ f) && C (f - 8)) := by
  unfold onU onB
  by_cases q : 8 ≤ f
  · rw [decide_eq_true q, decide_eq_true (show 1 ≤ f / 8 by omega), decide_eq_true (show f % 8 < 8 by omega), decide_eq_true (show f / 8 - 1 < 8 by omega), show 8 * (f / 8 - 1) + f % 8 = f - 8 by omega]
    rfl
  · rw [decide_eq_false q, decide_eq_false (show ¬ 1 ≤ f / 8 by omega), Bool.false_and, Bool.false_and]
theorem eU_d (hf : f < 64) : onU C (f % 8) (f / 8 + 1) = C f := by
  unfold onU onB
  rw [decide_eq_true (show 1 ≤ f / 8 + 1 by omega), Nat.add_sub_cancel, decide_eq_true (show f % 8 < 8 by omega), decide_eq_true (show f / 8 < 8 by omega), show 8 * (f / 8) + f % 8 = f by omega]
  rfl
theorem eL_f (hA : ∀ f, A f = true → f % 8 < 7) (hf : f < 64) : onL A (f % 8) (f / 8) = (decide (1 ≤ f) && A (f - 1)) := by
  unfold onL onB
  by_cases q : 1 ≤ f % 8
  · rw [decide_eq_true q, decide_eq_true (show 1 ≤ f by omega), decide_eq_true (show f % 8 - 1 < 8 by omega), decide_eq_true (show f / 8 < 8 by omega), show 8 * (f / 8) + (f % 8 - 1) = f - 1 by omega]
    rfl
  · rw [decide_eq_false q, Bool.false_and]
    by_cases q2 : 1 ≤ f
    · cases z : A (f - 1) with
      | false => rw [Bool.and_false]
      | true =>
        have := hA _ z
        omega
    · rw [decide_eq_false q2, Bool.false_and]
theorem eL_r (hf : f < 64) : onL A (f % 8 + 1) (f / 8) = A f := by
  unfold onL onB
  rw [decide_eq_true (show 1 ≤ f % 8 + 1 by omega), Nat.add_sub_cancel, decide_eq_true (show f % 8 < 8 by omega), decide_eq_true (show f / 8 < 8 by omega), show 8 * (f / 8) + f % 8 = f by omega]
  rfl
theorem eB_f (hf : f < 64) : onB on (f % 8) (f / 8) = on f := by
  unfold onB
  rw [decide_eq_true (show f % 8 < 8 by omega), decide_eq_true (show f / 8 < 8 by omega), show 8 * (f / 8) + f % 8 = f by omega]
  rfl
theorem tl_m (f : Nat) : hTL f % 9 = f % 8 ∧ hTL f / 9 = f / 8 := by
  unfold hTL
  omega
theorem hcor (hl : LY on A C) (hK : hclK on A C K) (hf : f < 64) (ho : on f = true) : (K (hTL f) ↔ K (hTL f + 1)) ∧ (K (hTL f) ↔ K (hTL f + 9)) ∧ (K (hTL f) ↔ K (hTL f + 10)) := by
  have e := hl.2.2.1 f
  rw [ho] at e
  unfold covN at e
  have t := tl_m f
  have tl : hTL f < 81 := by unfold hTL; omega
  refine four_K e (fun q => ?_) (fun q => ?_) (fun q => ?_) (fun q => ?_)
  · refine hK.1 (hTL f) tl (by omega) ?_
    unfold hrE
    rw [t.1, t.2, eU_f hf, eU_f hf, eB_f hf, ho, q, Bool.or_true]
    rfl
  · have k := hK.2 (hTL f + 1) (by unfold hTL; omega) (by unfold hTL; omega) (by
      unfold hdE
      rw [show (hTL f + 1) % 9 = f % 8 + 1 by omega, show (hTL f + 1) / 9 = f / 8 by omega, eL_r hf, eL_r hf, ho, q]
      rfl)
    exact k
  · have k := hK.1 (hTL f + 9) (by unfold hTL; omega) (by unfold hTL; omega) (by
      unfold hrE
      rw [show (hTL f + 9) % 9 = f % 8 by omega, show (hTL f + 9) / 9 = f / 8 + 1 by omega, eU_d hf, eU_d hf, ho, q]
      rfl)
    exact k
  · refine hK.2 (hTL f) tl (by omega) ?_
    unfold hdE
    rw [t.1, t.2, eL_f hl.1 hf, eB_f hf, ho, q, Bool.or_true]
    rfl
end HCO
theorem sc_any {M : Nat → Bool} {A : Nat → Nat → Bool} {p0 n : Nat} (h0 : M p0 = true) (hl : ∀ p, p < p0 → M p = false) (hc : cFr M A n = 1) : ∀ q, q < n → M q = true → rch M A p0 q := by
  intro q
  induction q using Nat.strongRecOn with
  | ind q ih =>
    intro hq hM
    apply Classical.byContradiction
    intro hno
    have hf : frs M A q := ⟨hM, fun p' hp hM' z => hno (rch_t (ih p' hp (by omega) hM') z)⟩
    have hp : p0 < q := by
      rcases Nat.lt_trichotomy q p0 with z | z | z
      · rw [hl q z] at hM; exact absurd hM (by decide)
      · rw [z] at hno; exact absurd rch_r hno
      · exact z
    have f0 : frs M A p0 := ⟨h0, fun p' hp' hM' _ => by rw [hl p' hp'] at hM'; exact absurd hM' (by decide)⟩
    have c0 := cFr_y f0
    have c1 := cFr_mono (M := M) (A := A) (m := p0 + 1) (n := q) (by omega)
    have c2 := cFr_y hf
    have c3 := cFr_mono (M := M) (A := A) (m := q + 1) (n := n) (by omega)
    omega
theorem hK_all {fl : Int64} {A C : Nat → Bool} {K : Nat → Prop} {f0 : Nat} (hl : LY (bfx fl) A C) (hK : hclK (bfx fl) A C K) (hc : aPc fl = 1) (h0 : bfx fl f0 = true) (hf0 : ∀ f, f < f0 → bfx fl f = false) (k0 : K (hTL f0)) : ∀ f, f < 64 → bfx fl f = true → K (hTL f) := by
  intro f hf ho
  have r := sc_any (A := A8) h0 hf0 hc f hf ho
  refine (r (fun g => bfx fl g = true ∧ K (hTL g)) ⟨h0, k0⟩ (fun a b ha hb hA => ⟨hb, ?_⟩)).2
  obtain ⟨la, lb⟩ := A8_lt hA
  have ca := hcor hl hK la ha.1
  have cb := hcor hl hK lb hb
  unfold A8 at hA
  simp only [Bool.and_eq_true, Bool.or_eq_true, decide_eq_true_iff] at hA
  rcases hA.2.2 with ⟨e, e2⟩ | ⟨e, e2⟩ | e | e
  · rw [show hTL b = hTL a + 1 by unfold hTL; omega]
    exact ca.1.mp ha.2
  · have k := ha.2
    rw [show hTL a = hTL b + 1 by unfold hTL; omega] at k
    exact cb.1.mpr k
  · rw [show hTL b = hTL a + 9 by unfold hTL; omega]
    exact ca.2.1.mp ha.2
  · have k := ha.2
    rw [show hTL a = hTL b + 9 by unfold hTL; omega] at k
    exact cb.2.1.mpr k
theorem hpt_f {on : Nat → Bool} {p : Nat} (hp : p < 81) (h : hpt on p = true) : ∃ f, f < 64 ∧ on f = true ∧ (p = hTL f ∨ p = hTL f + 1 ∨ p = hTL f + 9 ∨ p = hTL f + 10) := by
  unfold hpt at h
  rw [Bool.or_eq_true, Bool.or_eq_true, Bool.or_eq_true] at h
  rcases h with h | h | h | h
  · obtain ⟨k1, k2, k3⟩ := onB_t h
    exact ⟨_, by omega, k3, Or.inl (by unfold hTL; omega)⟩
  · obtain ⟨k0, k1, k2, k3⟩ := onL_t h
    exact ⟨_, by omega, k3, Or.inr (Or.inl (by unfold hTL; omega))⟩
  · obtain ⟨k0, k1, k2, k3⟩ := onU_t h
    exact ⟨_, by omega, k3, Or.inr (Or.inr (Or.inl (by unfold hTL; omega)))⟩
  · unfold onLU at h
    rw [Bool.and_eq_true, decide_eq_true_iff] at h
    obtain ⟨k0, k1, k2, k3⟩ := onU_t h.2
    have := h.1
    exact ⟨_, by omega, k3, Or.inr (Or.inr (Or.inr (by unfold hTL; omega)))⟩
theorem hK_pt {fl : Int64} {A C : Nat → Bool} {K : Nat → Prop} {f0 : Nat} (hl : LY (bfx fl) A C) (hK : hclK (bfx fl) A C K) (hc : aPc fl = 1) (h0 : bfx fl f0 = true) (hf0 : ∀ f, f < f0 → bfx fl f = false) (k0 : K (hTL f0)) {p : Nat} (hp : p < 81) (h : hpt (bfx fl) p = true) : K p := by
  obtain ⟨f, hf, ho, e⟩ := hpt_f hp h
  have k := hK_all hl hK hc h0 hf0 k0 f hf ho
  have c := hcor hl hK hf ho
  rcases e with rfl | rfl | rfl | rfl
  · exact k
  · exact c.1.mp k
  · exact c.2.1.mp k
  · exact c.2.2.mp k
