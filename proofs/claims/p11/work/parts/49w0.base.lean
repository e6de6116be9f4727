/-! ===== the reference's table ===== -/
section WE
variable {on a b : Nat → Bool} {w : Nat → Int32} {i j mk : Nat} {v : Int32}
def wE (on a b : Nat → Bool) (w : Nat → Int32) (j : Nat) : Prop := ∀ f m, j ≤ f → f ≤ 64 → m < 256 → w (256 * f + m) = Wm on a b (64 - f) m
def wEr (on a b : Nat → Bool) (w : Nat → Int32) (j mk : Nat) : Prop := wE on a b w (j + 1) ∧ ∀ m, m < mk → w (256 * j + m) = Wm on a b (64 - j) m
theorem wE_0 (h : ∀ m, m < i → w (16384 + m) = if m = 0 then 1 else 0) (e : i = 256) : wE on a b w (64 - 0) := by
  intro f m h1 h2 hm
  have hf : f = 64 := by omega
  subst hf
  exact h m (by omega)
theorem wE_u (h : ∀ m, m < i → w (16384 + m) = if m = 0 then 1 else 0) (hi : i < 256) (hv : v = if i = 0 then 1 else 0) : ∀ m, m < i + 1 → upd w ((16384 : Int32) + nI i).toNatClampNeg v (16384 + m) = if m = 0 then 1 else 0 := by
  intro m hm
  rw [show (16384 : Int32) = nI 16384 from rfl, nI_add, nI_clamp (by omega)]
  by_cases e : m = i
  · rw [e, pk_us]
    exact hv
  · rw [pk_un (by omega)]
    exact h m (by omega)
theorem i0 (hi : i < 256) (h : nI i = 0) : (1 : Int32) = if i = 0 then 1 else 0 := by
  rw [if_pos ((nI_eq (b := 0) (by omega) (by decide)).mp h)]
theorem i1 (h : ¬ nI i = 0) : (0 : Int32) = if i = 0 then 1 else 0 := by
  rw [if_neg (fun z => h (by rw [z]; rfl))]
theorem wE_j (h : wE on a b w (64 - i)) (hj : i + j = 63) : wEr on a b w j 0 := by
  refine ⟨?_, fun m hm => absurd hm (Nat.not_lt_zero _)⟩
  rw [show 64 - i = j + 1 by omega] at h
  exact h
theorem wE_end (h : wEr on a b w j mk) (e : mk = 256) (hj : i + j = 63) : wE on a b w (64 - (i + 1)) := by
  intro f m h1 h2 hm
  by_cases z : f = j
  · rw [z]
    exact h.2 m (by omega)
  · exact h.1 f m (by omega) h2 hm
theorem wE_up (h : wEr on a b w j mk) (hj : j < 64) (hm : mk < 256) (hv : v = Wm on a b (64 - j) mk) : wEr on a b (upd w ((256 : Int32) * nI j + nI mk).toNatClampNeg v) j (mk + 1) := by
  rw [wix, nI_clamp (by omega)]
  refine ⟨fun f m h1 h2 h3 => ?_, fun m h1 => ?_⟩
  · rw [pk_un (by omega)]
    exact h.1 f m h1 h2 h3
  · by_cases z : m = mk
    · rw [z, pk_us]
      exact hv
    · rw [pk_un (by omega)]
      exact h.2 m (by omega)
theorem wE_rd (h : wEr on a b w j mk) (hj : j < 64) {r : Nat} (hr : r < 256) : w ((256 : Int32) * nI (j + 1) + nI r).toNatClampNeg = Wm on a b (63 - j) r := by
  rw [wix, nI_clamp (by omega), h.1 (j + 1) r (by omega) (by omega) hr, show 64 - (j + 1) = 63 - j by omega]
theorem Wm_s (hj : j < 64) (m : Nat) : Wm on a b (64 - j) m = if m % 2 = 1 then (if on j = true then Wm on a b (63 - j) (m / 2) else 0) else if on j = false then Wm on a b (63 - j) (m / 2) else (if a j = true ∧ m / 2 % 2 = 0 then Wm on a b (63 - j) (m / 2 ||| 1) else 0) + (if b j = true then Wm on a b (63 - j) (m / 2 ||| 128) else 0) := by
  rw [show 64 - j = (63 - j) + 1 by omega]
  show (if _ then _ else _) = _
  rw [show 63 - (63 - j) = j by omega]
theorem me1 (hm : mk < 256) (h : nI mk &&& 1 = 1) : mk % 2 = 1 := by
  rw [pk_andN (by omega) 1 (by decide)] at h
  rcases Nat.mod_two_eq_zero_or_one mk with z | z
  · rw [show (2 : Nat) ^ 1 = 2 from rfl, z] at h
    exact absurd h (by decide)
  · exact z
theorem me0 (hm : mk < 256) (h : ¬ nI mk &&& 1 = 1) : ¬ mk % 2 = 1 := by
  intro z
  refine h ?_
  rw [pk_andN (by omega) 1 (by decide), show (2 : Nat) ^ 1 = 2 from rfl, z]
  rfl
variable {o' a' b' : Bool}
theorem we_1 (h : wEr on a b w j mk) (hj : j < 64) (hm : mk < 256) (ho : o' = on j) (q : nI mk &&& 1 = 1) (qo : o' = true) : w ((256 : Int32) * nI (j + 1) + nI (mk / 2)).toNatClampNeg = Wm on a b (64 - j) mk := by
  rw [Wm_s hj, if_pos (me1 hm q), if_pos (ho.symm.trans qo), wE_rd h hj (by omega)]
theorem we_2 (hj : j < 64) (hm : mk < 256) (ho : o' = on j) (q : nI mk &&& 1 = 1) (qo : o' = false) : (0 : Int32) = Wm on a b (64 - j) mk := by
  rw [Wm_s hj, if_pos (me1 hm q), if_neg (by rw [← ho, qo]; decide)]
theorem we_3 (h : wEr on a b w j mk) (hj : j < 64) (hm : mk < 256) (ho : o' = on j) (q : ¬ nI mk &&& 1 = 1) (qo : o' = false) : w ((256 : Int32) * nI (j + 1) + nI (mk / 2)).toNatClampNeg = Wm on a b (64 - j) mk := by
  rw [Wm_s hj, if_neg (me0 hm q), if_pos (ho.symm.trans qo), wE_rd h hj (by omega)]
theorem we_4 {s1 s2 : Int32} (hj : j < 64) (hm : mk < 256) (ho : o' = on j) (q : ¬ nI mk &&& 1 = 1) (qo : o' = true) (e1 : s1 = if a j = true ∧ mk / 2 % 2 = 0 then Wm on a b (63 - j) (mk / 2 ||| 1) else 0) (e2 : s2 = if b j = true then Wm on a b (63 - j) (mk / 2 ||| 128) else 0) : (0 + s1) + s2 = Wm on a b (64 - j) mk := by
  rw [Wm_s hj, if_neg (me0 hm q), if_neg (by rw [← ho, qo]; decide), e1, e2, Int32.zero_add]
theorem wa_y (h : wEr on a b w j mk) (hj : j < 64) (hm : mk < 256) (ha : a' = a j) (qa : a' = true) (q2 : nI mk &&& 2 = 0) : w ((256 : Int32) * nI (j + 1) + nI (mk / 2 / 2 * 2 + 1)).toNatClampNeg = if a j = true ∧ mk / 2 % 2 = 0 then Wm on a b (63 - j) (mk / 2 ||| 1) else 0 := by
  rw [if_pos ⟨ha.symm.trans qa, mk2_0 ⟨mk, hm⟩ q2⟩, wE_rd h hj (by omega), or1_n]
theorem wa_n1 (ha : a' = a j) (qa : a' = false) : (0 : Int32) = if a j = true ∧ mk / 2 % 2 = 0 then Wm on a b (63 - j) (mk / 2 ||| 1) else 0 := by
  rw [if_neg (fun z => by rw [← ha, qa] at z; exact absurd z.1 (by decide))]
theorem wa_n2 (hm : mk < 256) (q2 : ¬ nI mk &&& 2 = 0) : (0 : Int32) = if a j = true ∧ mk / 2 % 2 = 0 then Wm on a b (63 - j) (mk / 2 ||| 1) else 0 := by
  rw [if_neg (fun z => mk2_1 ⟨mk, hm⟩ q2 z.2)]
theorem wb_y (h : wEr on a b w j mk) (hj : j < 64) (hm : mk < 256) (hb : b' = b j) (qb : b' = true) : w ((256 : Int32) * nI (j + 1) + nI (mk / 2 + 128)).toNatClampNeg = if b j = true then Wm on a b (63 - j) (mk / 2 ||| 128) else 0 := by
  rw [if_pos (hb.symm.trans qb), wE_rd h hj (by omega), or128_n (by omega)]
theorem wb_n (hb : b' = b j) (qb : b' = false) : (0 : Int32) = if b j = true then Wm on a b (63 - j) (mk / 2 ||| 128) else 0 := by
  rw [if_neg (by rw [← hb, qb]; decide)]
theorem we_5 {s2 : Int32} (hj : j < 64) (hm : mk < 256) (ho : o' = on j) (q : ¬ nI mk &&& 1 = 1) (qo : o' = true) (e1 : (0 : Int32) = if a j = true ∧ mk / 2 % 2 = 0 then Wm on a b (63 - j) (mk / 2 ||| 1) else 0) (e2 : s2 = if b j = true then Wm on a b (63 - j) (mk / 2 ||| 128) else 0) : 0 + s2 = Wm on a b (64 - j) mk := by
  have h := we_4 hj hm ho q qo e1 e2
  rw [Int32.zero_add (0 : Int32)] at h
  exact h
theorem wE_tot (h : wE on a b w (64 - 64)) : w ((256 : Int32) * 0 + 0).toNatClampNeg = Wm on a b 64 0 := h 0 0 (by omega) (by omega) (by omega)
end WE
/-! glued stones -/
def mAl (f : Int32) (b : Bool) : Int64 := if b then 0 else (1 : Int64) <<< (f.toInt64 &&& 63)
def mAc (f : Int32) (b : Bool) : Int64 := if b then (1 : Int64) <<< (f.toInt64 &&& 63) else 0
def gA (f : Nat → Int32) : Nat → Int64
  | 0 => 0
  | n + 1 => if m_isG (f n) then gA f n ||| mAl (sF (f n)) (m_acr (f n)) else gA f n
def gC (f : Nat → Int32) : Nat → Int64
  | 0 => 0
  | n + 1 => if m_isG (f n) then gC f n ||| mAc (sF (f n)) (m_acr (f n)) else gC f n
def gTk (f : Nat → Int32) : Nat → Int64
  | 0 => 0
  | n + 1 => if m_isG (f n) then gTk f n ||| sP (f n) else gTk f n
theorem gg_y {R1 : Nat → Int32} {i : Nat} (hi : i ≤ 20) (h : m_isG (R1 (nI i).toNatClampNeg) = true) {x19 x20 x21 : Int64} (e : x19 = gA R1 i ∧ x20 = gC R1 i ∧ x21 = gTk R1 i) {y19 y20 y21 : Int64} (k1 : y19 = x19 ||| mAl (sF (R1 (nI i).toNatClampNeg)) (m_acr (R1 (nI i).toNatClampNeg))) (k2 : y20 = x20 ||| mAc (sF (R1 (nI i).toNatClampNeg)) (m_acr (R1 (nI i).toNatClampNeg))) (k3 : y21 = x21 ||| sP (R1 (nI i).toNatClampNeg)) : y19 = gA R1 (i + 1) ∧ y20 = gC R1 (i + 1) ∧ y21 = gTk R1 (i + 1) := by
  rw [cl20 hi] at h k1 k2 k3
  refine ⟨?_, ?_, ?_⟩
  · show _ = if m_isG (R1 i) then _ else _
    rw [h, if_pos rfl, k1, e.1]
  · show _ = if m_isG (R1 i) then _ else _
    rw [h, if_pos rfl, k2, e.2.1]
  · show _ = if m_isG (R1 i) then _ else _
    rw [h, if_pos rfl, k3, e.2.2]
theorem gg_n {R1 : Nat → Int32} {i : Nat} (hi : i ≤ 20) (h : m_isG (R1 (nI i).toNatClampNeg) = false) {x19 x20 x21 : Int64} (e : x19 = gA R1 i ∧ x20 = gC R1 i ∧ x21 = gTk R1 i) : x19 = gA R1 (i + 1) ∧ x20 = gC R1 (i + 1) ∧ x21 = gTk R1 (i + 1) := by
  rw [cl20 hi] at h
  refine ⟨?_, ?_, ?_⟩
  · show _ = if m_isG (R1 i) then _ else _
    rw [h, if_neg (by decide), e.1]
  · show _ = if m_isG (R1 i) then _ else _
    rw [h, if_neg (by decide), e.2.1]
  · show _ = if m_isG (R1 i) then _ else _
    rw [h, if_neg (by decide), e.2.2]
/-! bits of sets -/
theorem bf_or (x y : Int64) (j : Nat) : bfx (x ||| y) j = (bfx x j || bfx y j) := by rw [bfx, uN_or, Nat.testBit_or]; rfl
theorem bf_and (x y : Int64) (j : Nat) : bfx (x &&& y) j = (bfx x j && bfx y j) := by rw [bfx, uN_and, Nat.testBit_and]; rfl
theorem bf_0 (j : Nat) : bfx 0 j = false := by rw [bfx, show uN 0 = 0 from rfl, Nat.zero_testBit]
theorem bf_not (x : Int64) {j : Nat} (hj : j < 64) : bfx (x ^^^ (-1)) j = !bfx x j := by
  rw [bfx, uN_xor, uN_m1, Nat.testBit_xor, Nat.testBit_two_pow_sub_one, decide_eq_true hj]
  show ((uN x).testBit j ^^ true) = !(uN x).testBit j
  cases (uN x).testBit j <;> rfl
theorem bf_andn (x y : Int64) (j : Nat) : bfx (x &&& (y ^^^ (-1))) j = (bfx x j && !bfx y j) := by
  rw [bf_and]
  by_cases hj : j < 64
  · rw [bf_not y hj]
  · rw [bf_hi x (by omega), Bool.false_and, Bool.false_and]
theorem bf_zero {x : Int64} : x = 0 ↔ ∀ j, j < 64 → bfx x j = false := by
  constructor
  · intro h j _
    rw [h, bf_0]
  · intro h
    apply i64_zero
    intro j hj
    rw [hb_bf x hj]
    exact h j hj
def stA (c : Int32) (j : Nat) : Bool := !m_acr c && decide ((sF c).toNatClampNeg = j)
def stX (c : Int32) (j : Nat) : Bool := m_acr c && decide ((sF c).toNatClampNeg = j)
theorem one_tb : ∀ f : Fin 64, ∀ j : Fin 64, bfx ((1 : Int64) <<< ((nI f.val).toInt64 &&& 63)) j.val = decide (f.val = j.val) := by decide +kernel
theorem one_bf {f j : Nat} (hf : f < 64) : bfx ((1 : Int64) <<< ((nI f).toInt64 &&& 63)) j = decide (f = j) := by
  by_cases hj : j < 64
  · exact one_tb ⟨f, hf⟩ ⟨j, hj⟩
  · rw [bf_hi _ (by omega), decide_eq_false (by omega)]
theorem cl64 {k : Nat} (h : k < 64) : (nI k).toNatClampNeg = k := nI_clamp (by omega)
theorem mAl_bf (c : Int32) (j : Nat) : bfx (mAl (sF c) (m_acr c)) j = stA c j := by
  obtain ⟨k, hk, e⟩ := cF_ex c
  rw [stA, e, cl64 hk, mAl]
  cases m_acr c with
  | true => exact bf_0 j
  | false => exact one_bf hk
theorem mAc_bf (c : Int32) (j : Nat) : bfx (mAc (sF c) (m_acr c)) j = stX c j := by
  obtain ⟨k, hk, e⟩ := cF_ex c
  rw [stX, e, cl64 hk, mAc]
  cases m_acr c with
  | false => exact bf_0 j
  | true => exact one_bf hk
def lA (S : List Int32) (j : Nat) : Bool := S.any (fun c => m_isG c && stA c j)
def lX (S : List Int32) (j : Nat) : Bool := S.any (fun c => m_isG c && stX c j)
def lTk (S : List Int32) (j : Nat) : Bool := S.any (fun c => m_isG c && bfx (sP c) j)
theorem gA_bf (f : Nat → Int32) (j : Nat) : ∀ n, bfx (gA f n) j = lA (eL f n) j
  | 0 => bf_0 j
  | n + 1 => by
    show bfx (if m_isG (f n) then gA f n ||| mAl (sF (f n)) (m_acr (f n)) else gA f n) j = ((m_isG (f n) && stA (f n) j) || lA (eL f n) j)
    cases m_isG (f n) with
    | false => rw [if_neg (by decide), gA_bf f j n]; rfl
    | true => rw [if_pos rfl, bf_or, gA_bf f j n, mAl_bf, Bool.or_comm]; rfl
theorem gC_bf (f : Nat → Int32) (j : Nat) : ∀ n, bfx (gC f n) j = lX (eL f n) j
  | 0 => bf_0 j
  | n + 1 => by
    show bfx (if m_isG (f n) then gC f n ||| mAc (sF (f n)) (m_acr (f n)) else gC f n) j = ((m_isG (f n) && stX (f n) j) || lX (eL f n) j)
    cases m_isG (f n) with
    | false => rw [if_neg (by decide), gC_bf f j n]; rfl
    | true => rw [if_pos rfl, bf_or, gC_bf f j n, mAc_bf, Bool.or_comm]; rfl
theorem gT_bf (f : Nat → Int32) (j : Nat) : ∀ n, bfx (gTk f n) j = lTk (eL f n) j
  | 0 => bf_0 j
  | n + 1 => by
    show bfx (if m_isG (f n) then gTk f n ||| sP (f n) else gTk f n) j = ((m_isG (f n) && bfx (sP (f n)) j) || lTk (eL f n) j)
    cases m_isG (f n) with
    | false => rw [if_neg (by decide), gT_bf f j n]; rfl
    | true => rw [if_pos rfl, bf_or, gT_bf f j n, Bool.or_comm]; rfl
theorem gOr_bf (j : Nat) : ∀ (S : List Int32) (a : Int64), bfx (gOr a S) j = (bfx a j || lTk S j)
  | [], a => (Bool.or_false _).symm
  | c :: S, a => by
    show bfx (gOr (if m_isG c then a ||| sP c else a) S) j = (bfx a j || ((m_isG c && bfx (sP c) j) || lTk S j))
    rw [gOr_bf j S]
    cases m_isG c with
    | false => rfl
    | true => rw [if_pos rfl, bf_or, Bool.or_assoc]; rfl
/-! one stone covers its place -/
theorem st_cov : ∀ f : Fin 64, ∀ b : Bool, ¬ m_place (nI f.val) b = 0 → ∀ g : Fin 72, covN (fun j => !b && decide (f.val = j)) (fun j => b && decide (f.val = j)) g.val = bN (bfx (m_place (nI f.val) b) g.val) := by decide +kernel
theorem st_rng : ∀ f : Fin 64, ∀ b : Bool, ¬ m_place (nI f.val) b = 0 → (b = false → f.val % 8 < 7) ∧ (b = true → f.val < 56) := by decide +kernel
theorem cov_c {c : Int32} (hp : ¬ sP c = 0) (g : Nat) : covN (stA c) (stX c) g = bN (bfx (sP c) g) := by
  obtain ⟨k, hk, e⟩ := cF_ex c
  have hp' := hp
  unfold sP at hp ⊢
  rw [e] at hp ⊢
  have e1 : stA c = fun j => !m_acr c && decide (k = j) := by
    funext j
    rw [stA, e, cl64 hk]
  have e2 : stX c = fun j => m_acr c && decide (k = j) := by
    funext j
    rw [stX, e, cl64 hk]
  rw [e1, e2]
  by_cases hg : g < 72
  · exact st_cov ⟨k, hk⟩ _ hp ⟨g, hg⟩
  · rw [bf_hi _ (by omega)]
    unfold covN
    dsimp only
    rw [decide_eq_false (show ¬ k = g by omega), decide_eq_false (show ¬ k = g - 1 by omega), decide_eq_false (show ¬ k = g - 8 by omega)]
    simp [bN]
/-! what holds of a floor and its stones -/
def gPair : List Int32 → Prop
  | [] => True
  | c :: S => (m_isG c = true → S.any (gl (sP c)) = false) ∧ gPair S
def gInv (fl : Int64) (S : List Int32) : Prop := (∀ c, c ∈ S → ¬ sP c = 0 ∧ sP c &&& (fl ^^^ (-1)) = 0) ∧ gPair S
theorem gl_no {x : Int64} {S : List Int32} (h : S.any (gl x) = false) {j : Nat} (hx : bfx x j = true) : lTk S j = false := by
  induction S with
  | nil => rfl
  | cons c S ih =>
    have h' : (gl x c || S.any (gl x)) = false := h
    rw [Bool.or_eq_false_iff] at h'
    show ((m_isG c && bfx (sP c) j) || lTk S j) = false
    rw [ih h'.2, Bool.or_false]
    cases q : m_isG c with
    | false => rfl
    | true =>
      cases q2 : bfx (sP c) j with
      | false => rfl
      | true =>
        exfalso
        have z := h'.1
        rw [gl, q, Bool.true_and, Bool.not_eq_false', decide_eq_true_iff] at z
        have hj : j < 64 := by
          rcases Nat.lt_or_ge j 64 with y | y
          · exact y
          · rw [bf_hi x y] at hx; exact absurd hx (by decide)
        have z2 := bf_zero.mp z j hj
        rw [bf_and, q2, hx] at z2
        exact absurd z2 (by decide)
theorem cov_or {A C A' C' : Nat → Bool} {g : Nat} {t : Bool} (h : covN A C g = bN t) (h' : covN A' C' g = 0 ∨ t = false ) : covN (fun j => A j || A' j) (fun j => C j || C' j) g = bN t + covN A' C' g := by
  have o : ∀ x y : Bool, bN y = 0 → bN (x || y) = bN x := by intro x y hy; rw [bN_0 hy, Bool.or_false]
  have o' : ∀ x y : Bool, bN x = 0 → bN (x || y) = bN y := by intro x y hx; rw [bN_0 hx, Bool.false_or]
  have d : ∀ (p : Bool) (x y : Bool), (p && (x || y)) = ((p && x) || (p && y)) := by intro p x y; cases p <;> rfl
  unfold covN at h h' ⊢
  simp only [d]
  rcases h' with h' | h'
  · obtain ⟨a1, a2, a3, a4⟩ := pl0 rfl h'
    rw [o _ _ a1, o _ _ a2, o _ _ a3, o _ _ a4, h, h']
    rfl
  · rw [h', bN_f] at h ⊢
    obtain ⟨a1, a2, a3, a4⟩ := pl0 rfl h
    rw [o' _ _ a1, o' _ _ a2, o' _ _ a3, o' _ _ a4, Nat.zero_add]
theorem cov_S {fl : Int64} : ∀ (S : List Int32), (∀ c, c ∈ S → ¬ sP c = 0 ∧ sP c &&& (fl ^^^ (-1)) = 0) → gPair S → ∀ g, covN (lA S) (lX S) g = bN (lTk S g)
  | [], _, _, g => by
    show covN (fun _ => false) (fun _ => false) g = 0
    unfold covN
    simp [bN]
  | c :: S, h1, h2, g => by
    have ih := cov_S S (fun x hx => h1 x (List.mem_cons_of_mem _ hx)) h2.2 g
    show covN (fun j => (m_isG c && stA c j) || lA S j) (fun j => (m_isG c && stX c j) || lX S j) g = bN ((m_isG c && bfx (sP c) g) || lTk S g)
    cases q : m_isG c with
    | false =>
      show covN (fun j => lA S j) (fun j => lX S j) g = bN (lTk S g)
      exact ih
    | true =>
      show covN (fun j => stA c j || lA S j) (fun j => stX c j || lX S j) g = bN (bfx (sP c) g || lTk S g)
      have hc := cov_c (h1 c List.mem_cons_self).1 g
      cases t : bfx (sP c) g with
      | true =>
        have z := gl_no (h2.1 q) t
        rw [z, bN_f] at ih
        rw [t] at hc
        rw [cov_or hc (Or.inl ih), ih, z]
        rfl
      | false =>
        rw [t] at hc
        rw [cov_or hc (Or.inr rfl), ih, bN_f, Nat.zero_add, Bool.false_or]
theorem lT_on {fl : Int64} {S : List Int32} (h1 : ∀ c, c ∈ S → ¬ sP c = 0 ∧ sP c &&& (fl ^^^ (-1)) = 0) {g : Nat} (h : lTk S g = true) : bfx fl g = true := by
  unfold lTk at h
  rw [List.any_eq_true] at h
  obtain ⟨c, hc, hb⟩ := h
  rw [Bool.and_eq_true] at hb
  have z := (h1 c hc).2
  have hg : g < 64 := by
    rcases Nat.lt_or_ge g 64 with y | y
    · exact y
    · rw [bf_hi _ y] at hb; exact absurd hb.2 (by decide)
  have z2 := bf_zero.mp z g hg
  rw [bf_andn, hb.2, Bool.true_and, Bool.not_eq_false'] at z2
  exact z2
theorem gOK_S {fl : Int64} {S : List Int32} (h : gInv fl S) : gOK (bfx fl) (lA S) (lX S) (lTk S) := by
  refine ⟨fun f hf => ?_, fun f hf => ?_, cov_S S h.1 h.2, fun g hg => lT_on h.1 hg⟩
  · unfold lA at hf
    rw [List.any_eq_true] at hf
    obtain ⟨c, hc, hb⟩ := hf
    rw [Bool.and_eq_true, stA, Bool.and_eq_true, Bool.not_eq_true', decide_eq_true_iff] at hb
    obtain ⟨k, hk, e⟩ := cF_ex c
    have hp := (h.1 c hc).1
    unfold sP at hp
    rw [e] at hp
    rw [e, cl64 hk] at hb
    rw [← hb.2.2]
    exact (st_rng ⟨k, hk⟩ _ hp).1 hb.2.1
  · unfold lX at hf
    rw [List.any_eq_true] at hf
    obtain ⟨c, hc, hb⟩ := hf
    rw [Bool.and_eq_true, stX, Bool.and_eq_true, decide_eq_true_iff] at hb
    obtain ⟨k, hk, e⟩ := cF_ex c
    have hp := (h.1 c hc).1
    unfold sP at hp
    rw [e] at hp
    rw [e, cl64 hk] at hb
    rw [← hb.2.2]
    exact (st_rng ⟨k, hk⟩ _ hp).2 hb.2.1
/-! where a stone may lie -/
def may (fl tk al ac : Int64) (b : Bool) (f : Nat) : Bool := decide (f < 64) && m_may fl tk al ac (nI f) b
theorem plb_f : ∀ f : Fin 64, f.val % 8 < 7 → ¬ m_place (nI f.val) false = 0 ∧ ∀ j : Fin 64, bfx (m_place (nI f.val) false) j.val = (decide (j.val = f.val) || decide (j.val = f.val + 1)) := by decide +kernel
theorem plb_t : ∀ f : Fin 64, f.val < 56 → ¬ m_place (nI f.val) true = 0 ∧ ∀ j : Fin 64, bfx (m_place (nI f.val) true) j.val = (decide (j.val = f.val) || decide (j.val = f.val + 8)) := by decide +kernel
theorem pl0_f : ∀ f : Fin 64, ¬ f.val % 8 < 7 → m_place (nI f.val) false = 0 := by decide +kernel
theorem pl0_t : ∀ f : Fin 64, ¬ f.val < 56 → m_place (nI f.val) true = 0 := by decide +kernel
theorem pl_in2 {p x : Int64} {f d : Nat} (hd : f + d < 64) (hp0 : ∀ j : Fin 64, bfx p j.val = (decide (j.val = f) || decide (j.val = f + d))) : (p &&& (x ^^^ (-1)) = 0) ↔ (bfx x f && bfx x (f + d)) = true := by
  have hp : ∀ j, j < 64 → bfx p j = (decide (j = f) || decide (j = f + d)) := fun j hj => hp0 ⟨j, hj⟩
  rw [bf_zero, Bool.and_eq_true]
  constructor
  · intro h
    refine ⟨?_, ?_⟩
    · have z := h f (by omega)
      rw [bf_andn, hp f (by omega), decide_eq_true rfl, Bool.true_or, Bool.true_and, Bool.not_eq_false'] at z
      exact z
    · have z := h (f + d) hd
      rw [bf_andn, hp (f + d) hd, decide_eq_true rfl, Bool.or_true, Bool.true_and, Bool.not_eq_false'] at z
      exact z
  · intro h j hj
    rw [bf_andn, hp j hj]
    by_cases e : j = f
    · rw [e, h.1, Bool.not_true, Bool.and_false]
    · by_cases e2 : j = f + d
      · rw [e2, h.2, Bool.not_true, Bool.and_false]
      · rw [decide_eq_false e, decide_eq_false e2]; rfl
theorem pl_ou2 {p x : Int64} {f d : Nat} (hd : f + d < 64) (hp0 : ∀ j : Fin 64, bfx p j.val = (decide (j.val = f) || decide (j.val = f + d))) : (p &&& x = 0) ↔ (!bfx x f && !bfx x (f + d)) = true := by
  have hp : ∀ j, j < 64 → bfx p j = (decide (j = f) || decide (j = f + d)) := fun j hj => hp0 ⟨j, hj⟩
  rw [bf_zero, Bool.and_eq_true, Bool.not_eq_true', Bool.not_eq_true']
  constructor
  · intro h
    refine ⟨?_, ?_⟩
    · have z := h f (by omega)
      rw [bf_and, hp f (by omega), decide_eq_true rfl, Bool.true_or, Bool.true_and] at z
      exact z
    · have z := h (f + d) hd
      rw [bf_and, hp (f + d) hd, decide_eq_true rfl, Bool.or_true, Bool.true_and] at z
      exact z
  · intro h j hj
    rw [bf_and, hp j hj]
    by_cases e : j = f
    · rw [e, h.1, Bool.and_false]
    · by_cases e2 : j = f + d
      · rw [e2, h.2, Bool.and_false]
      · rw [decide_eq_false e, decide_eq_false e2]; rfl
theorem decide_b {p : Prop} [Decidable p] {b : Bool} (h : p ↔ b = true) : decide p = b := by
  cases b with
  | true => exact decide_eq_true (h.mpr rfl)
  | false => exact decide_eq_false (fun z => absurd (h.mp z) (by decide))
theorem may_f {fl tk al ac : Int64} (f : Nat) : may fl tk al ac false f = (decide (f % 8 < 7) && (bfx fl f && bfx fl (f + 1)) && ((!bfx tk f && !bfx tk (f + 1)) || bfx al f)) := by
  unfold may
  by_cases hf : f < 64
  · rw [decide_eq_true hf, Bool.true_and, m_may]
    by_cases h7 : f % 8 < 7
    · obtain ⟨h0, hp⟩ := plb_f ⟨f, hf⟩ h7
      dsimp only at h0 hp
      rw [decide_eq_false h0, decide_eq_true h7, Bool.not_false, Bool.true_and, Bool.true_and, decide_b (pl_in2 (x := fl) (d := 1) (by omega) hp), decide_b (pl_ou2 (x := tk) (d := 1) (by omega) hp), if_neg (by decide), hb_bf al hf]
    · have h0 := pl0_f ⟨f, hf⟩ h7
      dsimp only at h0
      rw [decide_eq_true h0, decide_eq_false h7]
      rfl
  · rw [decide_eq_false hf, bf_hi fl (by omega), Bool.false_and, Bool.false_and, Bool.and_false, Bool.false_and]
theorem may_t {fl tk al ac : Int64} (f : Nat) : may fl tk al ac true f = (decide (f < 56) && (bfx fl f && bfx fl (f + 8)) && ((!bfx tk f && !bfx tk (f + 8)) || bfx ac f)) := by
  unfold may
  by_cases hf : f < 64
  · rw [decide_eq_true hf, Bool.true_and, m_may]
    by_cases h7 : f < 56
    · obtain ⟨h0, hp⟩ := plb_t ⟨f, hf⟩ h7
      dsimp only at h0 hp
      rw [decide_eq_false h0, decide_eq_true h7, Bool.not_false, Bool.true_and, Bool.true_and, decide_b (pl_in2 (x := fl) (d := 8) (by omega) hp), decide_b (pl_ou2 (x := tk) (d := 8) (by omega) hp), if_pos rfl, hb_bf ac hf]
    · have h0 := pl0_t ⟨f, hf⟩ h7
      dsimp only at h0
      rw [decide_eq_true h0, decide_eq_false h7]
      rfl
  · rw [decide_eq_false hf, bf_hi fl (by omega), Bool.false_and, Bool.false_and, Bool.and_false, Bool.false_and]
/-- how many layings -/
def aCnt (fl : Int64) (S : List Int32) : Int32 := Wd (bfx (fl &&& (gOr 0 S ^^^ (-1)))) 64 0
theorem mOK_0 {on A C T : Nat → Bool} (h : gOK on A C T) : mOK on A C T 0 0 := by
  refine ⟨by decide, fun i hi => ⟨fun _ => Nat.zero_testBit i, fun hT => ?_⟩⟩
  rw [Nat.zero_testBit, decide_eq_false (show ¬ (i = 0 ∧ 1 ≤ 0) by omega), decide_eq_false (show ¬ 8 ≤ 0 + i by omega)]
  rfl
theorem cnt_gen {on A C T a b fr : Nat → Bool} (hg : gOK on A C T) (hfr : ∀ g, fr g = (on g && !T g)) (hon : ∀ g, 64 ≤ g → on g = false) (ha : ∀ f, a f = (decide (f % 8 < 7) && (on f && on (f + 1)) && ((!T f && !T (f + 1)) || A f))) (hb : ∀ f, b f = (decide (f < 56) && (on f && on (f + 8)) && ((!T f && !T (f + 8)) || C f))) : Wm on a b 64 0 = Wd fr 64 0 := by
  have e := dp_eq hg hfr hon ha hb 64 0 0 (by decide) (mOK_0 hg)
  rw [Nat.zero_and] at e
  exact e
theorem cnt_eq {fl : Int64} {S : List Int32} {R1 : Nat → Int32} {n : Nat} (h : gInv fl S) (hS : S = eL R1 n) {x19 x20 x21 : Int64} (e : x19 = gA R1 n ∧ x20 = gC R1 n ∧ x21 = gTk R1 n) : Wm (bfx fl) (may fl x21 x19 x20 false) (may fl x21 x19 x20 true) 64 0 = aCnt fl S := by
  have e1 : ∀ j, bfx x19 j = lA S j := fun j => by rw [e.1, gA_bf, hS]
  have e2 : ∀ j, bfx x20 j = lX S j := fun j => by rw [e.2.1, gC_bf, hS]
  have e3 : ∀ j, bfx x21 j = lTk S j := fun j => by rw [e.2.2, gT_bf, hS]
  refine cnt_gen (gOK_S h) (fun g => ?_) (fun g hg => bf_hi fl hg) (fun f => ?_) (fun f => ?_)
  · rw [bf_andn, gOr_bf, bf_0, Bool.false_or]
  · rw [may_f, e3, e3, e1]
  · rw [may_t, e3, e3, e2]
/-! ===== what every act keeps of floor and stones ===== -/
def gAll (fl : Int64) (S : List Int32) (P : List PE) : Prop := gInv fl S ∧ ∀ x, x ∈ P → gInv x.1 x.2
theorem gAll_keep {fl : Int64} {S : List Int32} {P : List PE} (h : gAll fl S P) : ∀ x, x ∈ aKeep fl S P → gInv x.1 x.2 := by
  intro x hx
  have hx2 := List.mem_of_mem_take hx
  rcases List.mem_cons.mp hx2 with rfl | z
  · exact h.1
  · exact h.2 x z
theorem any_false {α : Type} {p : α → Bool} {S : List α} (h : S.any p = false) : ∀ c, c ∈ S → p c = false := by
  intro c hc
  cases q : p c with
  | false => rfl
  | true =>
    have z : S.any p = true := List.any_eq_true.mpr ⟨c, hc, q⟩
    rw [h] at z
    exact absurd z (by decide)
theorem gInv_t {fl t : Int64} {S : List Int32} (h : gInv fl S) (ht : S.any (tw t) = false) : gInv t S := by
  refine ⟨fun c hc => ⟨(h.1 c hc).1, ?_⟩, h.2⟩
  have z := any_false ht c hc
  rw [tw, Bool.not_eq_false', decide_eq_true_iff] at z
  exact z
theorem gAll_bec {fl t : Int64} {S : List Int32} {P : List PE} (h : gAll fl S P) : gAll (aFl fl S t) S (aPs fl S P t) := by
  cases q1 : S.any (tw t) with
  | true => rw [(bec_tw (P := P) q1).2.1, (bec_tw q1).2.2]; exact h
  | false =>
    cases q2 : S.any (kd t) with
    | true => rw [(bec_kd (P := P) q1 q2).2.1, (bec_kd q1 q2).2.2]; exact h
    | false => rw [(bec_ok (fl := fl) (P := P) q1 q2).2.1, (bec_ok q1 q2).2.2]; exact ⟨gInv_t h.1 q1, gAll_keep h⟩
theorem gAll_row {fl : Int64} {S : List Int32} {P : List PE} {y b : Int32} (h : gAll fl S P) : gAll (aRowF fl S y b) S (aRowP fl S P y b) := by
  unfold aRowF aRowP
  cases rOk y b with
  | true => exact gAll_bec h
  | false => exact h
theorem gAll_pl {B Z : Nat → Int32} {V : Nat → Nat → Int32} {fl : Int64} {S : List Int32} {P : List PE} {q : Int32} (h : gAll fl S P) : gAll (aPlF B Z V fl S q) S (aPlP B Z V fl S P q) := by
  unfold aPlF aPlP
  by_cases z : plW B Z q = 0
  · rw [if_pos z, if_pos z]; exact gAll_bec h
  · rw [if_neg z, if_neg z]; exact h
theorem gAll_loo {fl : Int64} {S : List Int32} {P : List PE} (h : gAll fl S P) : gAll fl S.tail (aLooseP fl S P) := by
  cases S with
  | nil => exact h
  | cons c S => exact ⟨⟨fun x hx => h.1.1 x (List.mem_cons_of_mem _ hx), h.1.2.2⟩, gAll_keep h⟩
theorem gAll_und {fl : Int64} {S : List Int32} {P : List PE} (h : gAll fl S P) : gAll (aUndoF fl P) (aUndoS S P) (aUndoP P) := by
  cases P with
  | nil => exact h
  | cons x P => exact ⟨h.2 x List.mem_cons_self, fun y hy => h.2 y (List.mem_cons_of_mem _ hy)⟩
theorem sw0 {fl : Int64} {S : List Int32} {k f c : Int32} {b : Bool} (h : sWhy fl S k f b c = 0) : sGood k f c = true ∧ ¬ m_place f b = 0 ∧ m_place f b &&& (fl ^^^ (-1)) = 0 ∧ ¬ ((k = 1 ∨ k = 2) ∧ S.any (gl (m_place f b)) = true) := by
  unfold sWhy at h
  cases q : sGood k f c with
  | false => rw [q, if_neg (by decide)] at h; exact absurd h (by decide)
  | true =>
    rw [q, if_pos rfl] at h
    by_cases z : m_place f b = 0 ∨ ¬ m_place f b &&& (fl ^^^ (-1)) = 0
    · rw [if_pos z] at h; exact absurd h (by decide)
    · rw [if_neg z] at h
      by_cases z2 : (k = 1 ∨ k = 2) ∧ S.any (gl (m_place f b)) = true
      · rw [if_pos z2] at h; exact absurd h (by decide)
      · exact ⟨rfl, fun y => z (Or.inl y), Classical.byContradiction fun y => z (Or.inr y), z2⟩
theorem gAll_sto {fl : Int64} {S : List Int32} {P : List PE} {k f c : Int32} {b : Bool} (h : gAll fl S P) : gAll fl (aStoS fl S k f b c) (aStoP fl S P k f b c) := by
  unfold aStoS aStoP
  by_cases z : sWhy fl S k f b c = 0
  · rw [if_pos z, if_pos z]
    obtain ⟨z1, z2, z3, z4⟩ := sw0 z
    obtain ⟨k', f', c', hk, hf, hcc, rfl, rfl, rfl⟩ := good_ex z1
    obtain ⟨e1, e2, e3⟩ := sc_dec (b := b) hk hf hcc
    have e4 : sP (sCode (nI k') (nI f') b (nI c')) = m_place (nI f') b := by rw [sP, e2, e3]
    refine ⟨⟨fun x hx => ?_, ⟨fun hG => ?_, h.1.2⟩⟩, gAll_keep h⟩
    · rcases List.mem_cons.mp hx with rfl | y
      · rw [e4]; exact ⟨z2, z3⟩
      · exact h.1.1 x y
    · rw [e4]
      cases q : S.any (gl (m_place (nI f') b)) with
      | false => rfl
      | true =>
        refine absurd ⟨?_, q⟩ z4
        unfold m_isG at hG
        rw [Bool.or_eq_true, decide_eq_true_iff, decide_eq_true_iff] at hG
        rw [← e1]
        exact hG
  · rw [if_neg z, if_neg z]; exact h
/-! with -/
def wGl (S : List Int32) (f : Int32) (b : Bool) : Bool := if b then lX S f.toNatClampNeg else lA S f.toNatClampNeg
def wOut (fl : Int64) (S : List Int32) (f : Int32) (b : Bool) : Int32 := Wd (bfx ((fl &&& (gOr 0 S ^^^ (-1))) &&& (m_place f b ^^^ (-1)))) 64 0
def aWith (fl : Int64) (S : List Int32) (f : Int32) (b : Bool) : Int32 := if m_within f 0 63 then (if m_place f b = 0 ∨ ¬ m_place f b &&& (fl ^^^ (-1)) = 0 then (-100003) else if wGl S f b = true then aCnt fl S else if ¬ m_place f b &&& gOr 0 S = 0 then 0 else wOut fl S f b) else (-100001)
section AW
variable {fl : Int64} {S : List Int32} {f : Int32} {b : Bool}
theorem aw1 (h : m_within f 0 63 = false) : (-100001 : Int32) = aWith fl S f b := by rw [aWith, h]; rfl
theorem aw2 (h : m_within f 0 63 = true) (h2 : m_place f b = 0 ∨ ¬ m_place f b &&& (fl ^^^ (-1)) = 0) : (-100003 : Int32) = aWith fl S f b := by rw [aWith, h, if_pos rfl, if_pos h2]
theorem aw3 (h : m_within f 0 63 = true) (hp : ¬ m_place f b = 0) (hf : m_place f b &&& (fl ^^^ (-1)) = 0) (h3 : wGl S f b = true) : aCnt fl S = aWith fl S f b := by rw [aWith, h, if_pos rfl, if_neg (sw_n2 hp hf), if_pos h3]
theorem aw4 (h : m_within f 0 63 = true) (hp : ¬ m_place f b = 0) (hf : m_place f b &&& (fl ^^^ (-1)) = 0) (h3 : wGl S f b = false) (h4 : ¬ m_place f b &&& gOr 0 S = 0) : (0 : Int32) = aWith fl S f b := by rw [aWith, h, if_pos rfl, if_neg (sw_n2 hp hf), if_neg (by rw [h3]; decide), if_pos h4]
theorem aw5 (h : m_within f 0 63 = true) (hp : ¬ m_place f b = 0) (hf : m_place f b &&& (fl ^^^ (-1)) = 0) (h3 : wGl S f b = false) (h4 : m_place f b &&& gOr 0 S = 0) : wOut fl S f b = aWith fl S f b := by rw [aWith, h, if_pos rfl, if_neg (sw_n2 hp hf), if_neg (by rw [h3]; decide), if_neg (fun z => z h4)]
end AW
theorem and_T {p : Int64} {S : List Int32} {R1 : Nat → Int32} {n : Nat} (hS : S = eL R1 n) : (p &&& gTk R1 n = 0) ↔ (p &&& gOr 0 S = 0) := by
  have e : ∀ j, bfx (gTk R1 n) j = bfx (gOr 0 S) j := fun j => by rw [gT_bf, gOr_bf, bf_0, Bool.false_or, hS]
  rw [bf_zero, bf_zero]
  constructor
  · intro h j hj
    have := h j hj
    rw [bf_and, e] at this
    rw [bf_and]; exact this
  · intro h j hj
    have := h j hj
    rw [bf_and] at this
    rw [bf_and, e]; exact this
theorem wGl_bf {S : List Int32} {R1 : Nat → Int32} {n : Nat} (hS : S = eL R1 n) {f : Int32} {b : Bool} (hf : m_within f 0 63 = true) : m_hasBit (if b then gC R1 n else gA R1 n) f = wGl S f b := by
  obtain ⟨j, hj, rfl⟩ := vp_in_of (within_in64 hf) (by decide)
  rw [hb_bf _ hj, wGl, cl64 hj]
  cases b with
  | true => rw [if_pos rfl, if_pos rfl, gC_bf, hS]
  | false => rw [if_neg (by decide), if_neg (by decide), gA_bf, hS]
theorem cov_ext {A C A' C' : Nat → Bool} (hA : ∀ j, A j = A' j) (hC : ∀ j, C j = C' j) (g : Nat) : covN A C g = covN A' C' g := by
  rw [funext hA, funext hC]
/-- a glued place: nothing new -/
theorem wi_g {fl : Int64} {S : List Int32} {R1 : Nat → Int32} {n : Nat} {f : Int32} {b : Bool} (h : gInv fl S) (hS : S = eL R1 n) (hf : m_within f 0 63 = true) (hp : ¬ m_place f b = 0) (hg : wGl S f b = true) {x19 x20 x21 : Int64} (k1 : x19 = gA R1 n ||| mAl f b) (k2 : x20 = gC R1 n ||| mAc f b) (k3 : x21 = gTk R1 n ||| m_place f b) : Wm (bfx fl) (may fl x21 x19 x20 false) (may fl x21 x19 x20 true) 64 0 = aCnt fl S := by
  obtain ⟨k, hk, rfl⟩ := vp_in_of (within_in64 hf) (by decide)
  have G := gOK_S h
  rw [wGl, cl64 hk] at hg
  have e1 : ∀ j, bfx x19 j = lA S j := by
    intro j
    rw [k1, bf_or, gA_bf, ← hS, mAl]
    cases b with
    | true => rw [if_pos rfl, bf_0, Bool.or_false]
    | false =>
      rw [if_neg (by decide), one_bf hk]
      rw [if_neg (by decide)] at hg
      by_cases e : k = j
      · rw [← e, hg]; rfl
      · rw [decide_eq_false e, Bool.or_false]
  have e2 : ∀ j, bfx x20 j = lX S j := by
    intro j
    rw [k2, bf_or, gC_bf, ← hS, mAc]
    cases b with
    | false => rw [if_neg (by decide), bf_0, Bool.or_false]
    | true =>
      rw [if_pos rfl, one_bf hk]
      rw [if_pos rfl] at hg
      by_cases e : k = j
      · rw [← e, hg]; rfl
      · rw [decide_eq_false e, Bool.or_false]
  have e3 : ∀ j, bfx x21 j = lTk S j := by
    intro j
    rw [k3, bf_or, gT_bf, ← hS]
    cases q : bfx (m_place (nI k) b) j with
    | false => rw [Bool.or_false]
    | true =>
      have hj : j < 64 := by
        rcases Nat.lt_or_ge j 64 with y | y
        · exact y
        · rw [bf_hi _ y] at q; exact absurd q (by decide)
      have r := st_rng ⟨k, hk⟩ b hp
      dsimp only at r
      cases b with
      | false =>
        rw [if_neg (by decide)] at hg
        rw [(plb_f ⟨k, hk⟩ (r.1 rfl)).2 ⟨j, hj⟩, Bool.or_eq_true, decide_eq_true_iff, decide_eq_true_iff] at q
        rcases q with q | q
        · dsimp only at q; rw [q, (g_A G hg).1]; rfl
        · dsimp only at q; rw [q, (g_A1 G hg).1]; rfl
      | true =>
        rw [if_pos rfl] at hg
        rw [(plb_t ⟨k, hk⟩ (r.2 rfl)).2 ⟨j, hj⟩, Bool.or_eq_true, decide_eq_true_iff, decide_eq_true_iff] at q
        rcases q with q | q
        · dsimp only at q; rw [q, (g_C G hg).1]; rfl
        · dsimp only at q; rw [q, g_C8 G hg]; rfl
  refine cnt_gen G (fun g => ?_) (fun g hg => bf_hi fl hg) (fun f => ?_) (fun f => ?_)
  · rw [bf_andn, gOr_bf, bf_0, Bool.false_or]
  · rw [may_f, e3, e3, e1]
  · rw [may_t, e3, e3, e2]
/-- a place of its own -/
theorem wi_o {fl : Int64} {S : List Int32} {R1 : Nat → Int32} {n : Nat} {f : Int32} {b : Bool} (h : gInv fl S) (hS : S = eL R1 n) (hf : m_within f 0 63 = true) (hp : ¬ m_place f b = 0) (hfl : m_place f b &&& (fl ^^^ (-1)) = 0) (h4 : m_place f b &&& gOr 0 S = 0) {x19 x20 x21 : Int64} (k1 : x19 = gA R1 n ||| mAl f b) (k2 : x20 = gC R1 n ||| mAc f b) (k3 : x21 = gTk R1 n ||| m_place f b) : Wm (bfx fl) (may fl x21 x19 x20 false) (may fl x21 x19 x20 true) 64 0 = wOut fl S f b := by
  obtain ⟨k, hk, rfl⟩ := vp_in_of (within_in64 hf) (by decide)
  have G := gOK_S h
  have e1 : ∀ j, bfx x19 j = ((!b && decide (k = j)) || lA S j) := by
    intro j
    rw [k1, bf_or, gA_bf, ← hS, mAl, Bool.or_comm]
    cases b with
    | true => rw [if_pos rfl, bf_0]; rfl
    | false => rw [if_neg (by decide), one_bf hk]; rfl
  have e2 : ∀ j, bfx x20 j = ((b && decide (k = j)) || lX S j) := by
    intro j
    rw [k2, bf_or, gC_bf, ← hS, mAc, Bool.or_comm]
    cases b with
    | false => rw [if_neg (by decide), bf_0]; rfl
    | true => rw [if_pos rfl, one_bf hk]; rfl
  have e3 : ∀ j, bfx x21 j = (bfx (m_place (nI k) b) j || lTk S j) := by
    intro j
    rw [k3, bf_or, gT_bf, ← hS, Bool.or_comm]
  have r := st_rng ⟨k, hk⟩ b hp
  dsimp only at r
  have hcv : ∀ g, covN (fun j => !b && decide (k = j)) (fun j => b && decide (k = j)) g = bN (bfx (m_place (nI k) b) g) := by
    intro g
    by_cases hg : g < 72
    · exact st_cov ⟨k, hk⟩ b hp ⟨g, hg⟩
    · rw [bf_hi _ (by omega)]
      unfold covN
      dsimp only
      rw [decide_eq_false (show ¬ k = g by omega), decide_eq_false (show ¬ k = g - 1 by omega), decide_eq_false (show ¬ k = g - 8 by omega)]
      simp [bN]
  have hdis : ∀ g, bfx (m_place (nI k) b) g = true → lTk S g = false := by
    intro g q
    have hg : g < 64 := by
      rcases Nat.lt_or_ge g 64 with y | y
      · exact y
      · rw [bf_hi _ y] at q; exact absurd q (by decide)
    have z := bf_zero.mp h4 g hg
    rw [bf_and, q, gOr_bf, bf_0, Bool.false_or, Bool.true_and] at z
    exact z
  have G2 : gOK (bfx fl) (fun j => (!b && decide (k = j)) || lA S j) (fun j => (b && decide (k = j)) || lX S j) (fun j => bfx (m_place (nI k) b) j || lTk S j) := by
    refine ⟨fun f hf => ?_, fun f hf => ?_, fun g => ?_, fun g hg => ?_⟩
    · rw [Bool.or_eq_true, Bool.and_eq_true, Bool.not_eq_true', decide_eq_true_iff] at hf
      rcases hf with z | z
      · rw [← z.2]; exact r.1 z.1
      · exact G.1 f z
    · rw [Bool.or_eq_true, Bool.and_eq_true, decide_eq_true_iff] at hf
      rcases hf with z | z
      · rw [← z.2]; exact r.2 z.1
      · exact G.2.1 f z
    · have c1 := G.2.2.1 g
      show covN (fun j => (!b && decide (k = j)) || lA S j) (fun j => (b && decide (k = j)) || lX S j) g = bN (bfx (m_place (nI k) b) g || lTk S g)
      cases t : bfx (m_place (nI k) b) g with
      | true =>
        rw [hdis g t, bN_f] at c1
        rw [cov_or (hcv g) (Or.inl c1), c1, t, hdis g t]; rfl
      | false => rw [cov_or (hcv g) (Or.inr t), c1, t, bN_f, Nat.zero_add, Bool.false_or]
    · rw [Bool.or_eq_true] at hg
      rcases hg with z | z
      · have hg : g < 64 := by
          rcases Nat.lt_or_ge g 64 with y | y
          · exact y
          · rw [bf_hi _ y] at z; exact absurd z (by decide)
        have z2 := bf_zero.mp hfl g hg
        rw [bf_andn, z, Bool.true_and, Bool.not_eq_false'] at z2
        exact z2
      · exact G.2.2.2 g z
  refine cnt_gen G2 (fun g => ?_) (fun g hg => bf_hi fl hg) (fun f => ?_) (fun f => ?_)
  · rw [bf_andn, bf_andn, gOr_bf, bf_0, Bool.false_or]
    cases bfx fl g <;> cases lTk S g <;> cases bfx (m_place (nI k) b) g <;> rfl
  · rw [may_f, e3, e3, e1]
  · rw [may_t, e3, e3, e2]
theorem my_t {fl tk al ac : Int64} {f : Int32} {b : Bool} (h : m_may fl tk al ac f b = true) (hn : m_hasBit (if b then ac else al) f = false) : m_place f b &&& tk = 0 := by
  unfold m_may at h
  rw [Bool.and_eq_true, Bool.and_eq_true, hn, Bool.or_false] at h
  exact of_decide_eq_true h.2.2
theorem my_f {fl tk al ac : Int64} {f : Int32} {b : Bool} (hp : ¬ m_place f b = 0) (hf : m_place f b &&& (fl ^^^ (-1)) = 0) (h : m_may fl tk al ac f b = false) : ¬ m_place f b &&& tk = 0 ∧ m_hasBit (if b then ac else al) f = false := by
  unfold m_may at h
  rw [decide_eq_false hp, decide_eq_true hf, Bool.not_false, Bool.true_and, Bool.true_and, Bool.or_eq_false_iff, decide_eq_false_iff_not] at h
  exact h
theorem wiM {fl : Int64} {S : List Int32} {R1 : Nat → Int32} {n : Nat} {f : Int32} {b : Bool} (h : gInv fl S) (hS : S = eL R1 n) (hf : m_within f 0 63 = true) (hp : ¬ m_place f b = 0) (hfl : m_place f b &&& (fl ^^^ (-1)) = 0) (hm : m_may fl (gTk R1 n) (gA R1 n) (gC R1 n) f b = true) {x19 x20 x21 : Int64} (k1 : x19 = gA R1 n ||| mAl f b) (k2 : x20 = gC R1 n ||| mAc f b) (k3 : x21 = gTk R1 n ||| m_place f b) : Wm (bfx fl) (may fl x21 x19 x20 false) (may fl x21 x19 x20 true) 64 0 = aWith fl S f b := by
  cases q : wGl S f b with
  | true => rw [wi_g h hS hf hp q k1 k2 k3]; exact aw3 hf hp hfl q
  | false =>
    have z := my_t hm (by rw [wGl_bf hS hf]; exact q)
    rw [wi_o h hS hf hp hfl ((and_T hS).mp z) k1 k2 k3]
    exact aw5 hf hp hfl q ((and_T hS).mp z)
theorem wiM0 {fl : Int64} {S : List Int32} {R1 : Nat → Int32} {n : Nat} {f : Int32} {b : Bool} (hS : S = eL R1 n) (hf : m_within f 0 63 = true) (hp : ¬ m_place f b = 0) (hfl : m_place f b &&& (fl ^^^ (-1)) = 0) (hm : m_may fl (gTk R1 n) (gA R1 n) (gC R1 n) f b = false) : (0 : Int32) = aWith fl S f b := by
  obtain ⟨z1, z2⟩ := my_f hp hfl hm
  rw [wGl_bf hS hf] at z2
  exact aw4 hf hp hfl z2 (fun y => z1 ((and_T hS).mpr y))
/-! whether a number is of a laying -/
def inCnt (fl : Int64) (S : List Int32) (n : Int32) : Bool := !decide (n < 0) && decide (n < aCnt fl S)
def aLay (fl : Int64) (S : List Int32) (n : Int32) : Int32 := if inCnt fl S n then 1 else (-100001)
theorem ic_1 {fl : Int64} {S : List Int32} {n : Int32} (h : n < 0) : inCnt fl S n = false := by rw [inCnt, decide_eq_true h]; rfl
theorem ic_2 {fl : Int64} {S : List Int32} {n x : Int32} (e : x = aCnt fl S) (h : ¬ n < x) : inCnt fl S n = false := by rw [inCnt, ← e, decide_eq_false h, Bool.and_false]
theorem ic_3 {fl : Int64} {S : List Int32} {n x : Int32} (e : x = aCnt fl S) (h0 : ¬ n < 0) (h : n < x) : inCnt fl S n = true := by rw [inCnt, ← e, decide_eq_true h, decide_eq_false h0]; rfl
theorem ly_t {fl : Int64} {S : List Int32} {n : Int32} (h : inCnt fl S n = true) : (1 : Int32) = aLay fl S n := by rw [aLay, h]; rfl
theorem ly_f {fl : Int64} {S : List Int32} {n : Int32} (h : inCnt fl S n = false) : (-100001 : Int32) = aLay fl S n := by rw [aLay, h]; rfl
/-! the class's glued starts -/
def gSt (b : Bool) (a : Int64) : List Int32 → Int64
  | [] => a
  | c :: S => gSt b (if m_isG c && (m_acr c == b) then a ||| ((1 : Int64) <<< ((sF c).toInt64 &&& 63)) else a) S
theorem gSt_bf (b : Bool) (j : Nat) : ∀ (S : List Int32) (a : Int64), bfx (gSt b a S) j = (bfx a j || (if b then lX S j else lA S j))
  | [], a => by cases b <;> exact (Bool.or_false _).symm
  | c :: S, a => by
    show bfx (gSt b (if m_isG c && (m_acr c == b) then a ||| ((1 : Int64) <<< ((sF c).toInt64 &&& 63)) else a) S) j = _
    rw [gSt_bf b j S]
    obtain ⟨k, hk, e⟩ := cF_ex c
    have ex : lX (c :: S) j = ((m_isG c && stX c j) || lX S j) := rfl
    have ea : lA (c :: S) j = ((m_isG c && stA c j) || lA S j) := rfl
    rw [ex, ea, stX, stA, e, cl64 hk]
    cases m_isG c <;> cases m_acr c <;> cases b <;> simp [bf_or, one_bf hk, Bool.or_assoc]
theorem gSt_gl {S : List Int32} {f : Int32} {b : Bool} (hf : g_isField f = true) : g_holds (gSt b 0 S) f = wGl S f b := by
  obtain ⟨k, hk, rfl⟩ := isF_in hf
  rw [hol_t _ hk, gSt_bf, bf_0, Bool.false_or, wGl, cl64 hk]
theorem gSt_y {b : Bool} {a : Int64} {c : Int32} {S : List Int32} (h : g_under (sK c) 1 = true) (h2 : bI (m_acr c) = bI b) : gSt b a (c :: S) = gSt b (a ||| ((1 : Int64) <<< ((sF c).toInt64 &&& 63))) S := by
  have e : m_acr c = b := bI_inj.mp h2
  show gSt b (if m_isG c && (m_acr c == b) then _ else a) S = _
  rw [← und_G, h, e]
  simp
theorem gSt_n1 {b : Bool} {a : Int64} {c : Int32} {S : List Int32} (h : g_under (sK c) 1 = false) : gSt b a (c :: S) = gSt b a S := by
  show gSt b (if m_isG c && (m_acr c == b) then _ else a) S = _
  rw [← und_G, h]; rfl
theorem gSt_n2 {b : Bool} {a : Int64} {c : Int32} {S : List Int32} (h2 : ¬ bI (m_acr c) = bI b) : gSt b a (c :: S) = gSt b a S := by
  have e : ¬ m_acr c = b := fun z => h2 (by rw [z])
  show gSt b (if m_isG c && (m_acr c == b) then _ else a) S = _
  rw [show (m_acr c == b) = false from beq_eq_false_iff_ne.mpr e, Bool.and_false]; rfl
theorem kt_eq {fl a : Int64} {S : List Int32} {x : Int32} {j : Int64} (e : a = fl) (hj : j = a &&& (gOr 0 S ^^^ (-1))) (ht : x = Wd (bfx j) 64 0) : x = aCnt fl S := by rw [ht, hj, e]; rfl
theorem kw_eq {fl a : Int64} {S : List Int32} {x : Int32} {j : Int64} {f : Int32} {b : Bool} (e : a = fl) (hj : j = a &&& (gOr 0 S ^^^ (-1))) (hf : g_isField f = true) (ht : x = Wd (bfx (j &&& (g_place f b ^^^ (-1)))) 64 0) : x = wOut fl S f b := by rw [ht, hj, e, gpm hf]; rfl
