/-! ===== the class's side ===== -/
/-- the stones S hang from o, the latest first -/
def chR (Y : va_W) : List Int32 → Option Nat → Prop
  | [], o => o = none
  | c :: S, o => ∃ (b : Nat) (be : Option Nat) (k : Int32), o = some b ∧ stC b be (nI S.length) (sK c) (sF c) (m_acr c) k (sP c) ∈ Y ∧ ¬ sP c = 0 ∧ chR Y S be
theorem chR_mono {Y Y' : va_W} (hs : ∀ c, c ∈ Y → c ∈ Y') : ∀ (S : List Int32) (o : Option Nat), chR Y S o → chR Y' S o
  | [], _, h => h
  | c :: S, o, h => by
    obtain ⟨b, be, k, e, hm, hp, hc⟩ := h
    exact ⟨b, be, k, e, hs _ hm, hp, chR_mono hs S be hc⟩
theorem chR_ch {Y : va_W} : ∀ (S : List Int32) (o : Option Nat), chR Y S o → chain Y S.length o
  | [], _, h => h
  | c :: S, o, h => by
    obtain ⟨b, be, k, e, hm, hp, hc⟩ := h
    exact ⟨b, be, _, _, _, k, _, e, hm, chR_ch S be hc⟩
theorem chR_nil {Y : va_W} {S : List Int32} {o : Option Nat} (h : chR Y S o) (q : o = none) : S = [] := by
  cases S with
  | nil => rfl
  | cons c S =>
    obtain ⟨b, be, k, e, -⟩ := h
    rw [q] at e
    cases e
theorem chR_some {Y : va_W} {S : List Int32} {o : Option Nat} (h : chR Y S o) (q : ¬ o = none) : ∃ (c : Int32) (T : List Int32) (b : Nat) (be : Option Nat) (k : Int32), S = c :: T ∧ o = some b ∧ stC b be (nI T.length) (sK c) (sF c) (m_acr c) k (sP c) ∈ Y ∧ ¬ sP c = 0 ∧ chR Y T be := by
  cases S with
  | nil => exact absurd h q
  | cons c S =>
    obtain ⟨b, be, k, e, hm, hp, hc⟩ := h
    exact ⟨c, S, b, be, k, rfl, e, hm, hp, hc⟩
def pcR (Y : va_W) (o : Option Nat) (x : PE) : Prop := ∃ (b : Nat) (l h : Option Nat), o = some b ∧ paC b x.1 l h ∈ Y ∧ chR Y x.2 l ∧ x.2.length ≤ 20 ∧ layO Y h
theorem pcR_mono {Y Y' : va_W} (hs : ∀ c, c ∈ Y → c ∈ Y') {o : Option Nat} {x : PE} (h : pcR Y o x) : pcR Y' o x := by
  obtain ⟨b, l, k, e, hm, h1, h2, h3⟩ := h
  exact ⟨b, l, k, e, hs _ hm, chR_mono hs _ _ h1, h2, layO_mono hs h3⟩
def RCf (Y : va_W) (J6 : Int64) (O7 : Option Nat) (I9 : Int32) (RO2 : Nat → Option Nat) (fl : Int64) (S : List Int32) (P : List PE) : Prop := J6 = fl ∧ (chR Y S O7 ∧ S.length ≤ 20) ∧ ∃ (k : Nat) (e : Nat → PE), k ≤ 20 ∧ I9 = nI k ∧ P = eL e k ∧ ∀ i, i < k → pcR Y (RO2 i) (e i)
theorem RCf_mono {Y Y' : va_W} (hs : ∀ c, c ∈ Y → c ∈ Y') {J6 : Int64} {O7 : Option Nat} {I9 : Int32} {RO2 : Nat → Option Nat} {fl : Int64} {S : List Int32} {P : List PE} (h : RCf Y J6 O7 I9 RO2 fl S P) : RCf Y' J6 O7 I9 RO2 fl S P := by
  obtain ⟨h1, ⟨h2, h3⟩, k, e, h4, h5, h6, h7⟩ := h
  exact ⟨h1, ⟨chR_mono hs _ _ h2, h3⟩, k, e, h4, h5, h6, fun i hi => pcR_mono hs (h7 i hi)⟩
theorem kc_in {Y Y9 : va_W} {J6 : Int64} {O7 h : Option Nat} {I9 x : Int32} {RO2 g : Nat → Option Nat} {fl : Int64} {S : List Int32} {P : List PE} {n d q : Nat} (hA : RCf Y J6 O7 I9 RO2 fl S P) (hs : ∀ c, c ∈ Y → c ∈ Y9) (hn : n < 20) (hk : I9 = nI (n + d)) (hd : d = 0 ∨ (d = 1 ∧ n = 19)) (hg : ∀ i, i < n → g i = RO2 (i + d)) (hx : x = nI n) (hm : paC q J6 O7 h ∈ Y9) (hh : layO Y9 h) : RCf Y9 J6 O7 (x + 1) (va_up g x.toNatClampNeg (some q)) fl S (aKeep fl S P) := by
  obtain ⟨rfl, ⟨h2, h3⟩, k, e, h4, h5, rfl, h7⟩ := hA
  have ek : k = n + d := (nI_eq (by omega) (by rcases hd with h | h <;> omega)).mp (h5.symm.trans hk)
  have ex : x.toNatClampNeg = n := by rw [hx]; exact cl20 (by omega)
  refine ⟨rfl, ⟨chR_mono hs _ _ h2, h3⟩, n + 1, fun i => if i = n then (J6, S) else e (i + d), hn, by rw [hx, nI_1], ?_, ?_⟩
  · exact (keepL ek hn hd (if_pos rfl) (fun i hi => if_neg (by omega))).symm
  · intro i hi
    rw [ex]
    show pcR Y9 (va_up g n (some q) i) (if i = n then (J6, S) else e (i + d))
    by_cases z : i = n
    · subst z
      rw [va_up_self, if_pos rfl]
      exact ⟨q, O7, h, rfl, hm, chR_mono hs _ _ h2, h3, hh⟩
    · rw [va_up_ne _ _ z, if_neg z, hg i (by omega)]
      exact pcR_mono hs (h7 (i + d) (by omega))
theorem kc_0 {Y Y9 : va_W} {J6 : Int64} {O7 h : Option Nat} {I9 : Int32} {RO2 : Nat → Option Nat} {fl : Int64} {S : List Int32} {P : List PE} {q : Nat} (hA : RCf Y J6 O7 I9 RO2 fl S P) (hs : ∀ c, c ∈ Y → c ∈ Y9) (hv : vp_in I9 21) (h2 : ¬ I9 = 20) (hm : paC q J6 O7 h ∈ Y9) (hh : layO Y9 h) : RCf Y9 J6 O7 (I9 + 1) (va_up RO2 I9.toNatClampNeg (some q)) fl S (aKeep fl S P) := by
  obtain ⟨n, hn, e⟩ := vp_in_of (in_ne hv h2) (by decide)
  exact kc_in (d := 0) hA hs hn e (Or.inl rfl) (fun _ _ => rfl) e hm hh
theorem kc_1 {Y Y9 : va_W} {J6 : Int64} {O7 h : Option Nat} {I9 m9 : Int32} {RO2 g : Nat → Option Nat} {fl : Int64} {S : List Int32} {P : List PE} {q k : Nat} (hA : RCf Y J6 O7 I9 RO2 fl S P) (hs : ∀ c, c ∈ Y → c ∈ Y9) (h0 : I9 = 20) (hm9 : m9 = 20) (hk : k + 1 = 20) (hg : shf 1 RO2 g k) (hm : paC q J6 O7 h ∈ Y9) (hh : layO Y9 h) : RCf Y9 J6 O7 (m9 - 1 + 1) (va_up g (m9 - 1).toNatClampNeg (some q)) fl S (aKeep fl S P) := by
  have e : k = 19 := by omega
  subst e
  exact kc_in (n := 19) (d := 1) hA hs (by decide) (by rw [h0]; rfl) (Or.inr ⟨rfl, rfl⟩) (shf_at hg (Nat.le_refl _)) (by rw [hm9]; rfl) hm hh
theorem uc_0 {Y : va_W} {J6 : Int64} {O7 : Option Nat} {I9 : Int32} {RO2 : Nat → Option Nat} {fl : Int64} {S : List Int32} {P : List PE} (hA : RCf Y J6 O7 I9 RO2 fl S P) (h0 : I9 = 0) : RCf Y J6 O7 I9 RO2 (aUndoF fl P) (aUndoS S P) (aUndoP P) ∧ (-100006 : Int32) = aUndoA P := by
  obtain ⟨h1, h2, k, e, h4, rfl, rfl, h7⟩ := hA
  have z : k = 0 := (nI_eq (b := 0) (by omega) (by decide)).mp h0
  subst z
  exact ⟨⟨h1, h2, 0, e, h4, rfl, rfl, h7⟩, rfl⟩
theorem uc_1 {Y : va_W} {J6 : Int64} {O7 : Option Nat} {I9 : Int32} {RO2 : Nat → Option Nat} {fl : Int64} {S : List Int32} {P : List PE} (hA : RCf Y J6 O7 I9 RO2 fl S P) (h0 : ¬ I9 = 0) : ∃ (b : Nat) (f : Int64) (l h : Option Nat), RO2 (I9 - 1).toNatClampNeg = some b ∧ paC b f l h ∈ Y ∧ chR Y (aUndoS S P) l ∧ layO Y h ∧ RCf Y f l (I9 - 1) (va_up RO2 (I9 - 1).toNatClampNeg none) (aUndoF fl P) (aUndoS S P) (aUndoP P) ∧ I9 - 1 = aUndoA P := by
  obtain ⟨h1, h2, k, e, h4, rfl, rfl, h7⟩ := hA
  cases k with
  | zero => exact absurd rfl h0
  | succ k =>
    rw [nI_s1, cl20 (by omega)]
    obtain ⟨b, l, h, e1, e2, e3, e4, e5⟩ := h7 k (Nat.lt_succ_self k)
    refine ⟨b, _, l, h, e1, e2, e3, e5, ⟨rfl, ⟨e3, e4⟩, k, e, by omega, rfl, rfl, fun i hi => ?_⟩, ?_⟩
    · rw [va_up_ne _ _ (by omega)]
      exact h7 i (by omega)
    · show nI k = nI (eL e k).length
      rw [eL_len]
theorem RC_stone {Y : va_W} {J6 : Int64} {O7 : Option Nat} {I9 : Int32} {RO2 : Nat → Option Nat} {fl : Int64} {S T : List Int32} {P : List PE} {o : Option Nat} (hA : RCf Y J6 O7 I9 RO2 fl S P) (h : chR Y T o) (hl : T.length ≤ 20) : RCf Y J6 o I9 RO2 fl T P := ⟨hA.1, ⟨h, hl⟩, hA.2.2⟩
theorem RC_floor {Y : va_W} {J6 : Int64} {O7 : Option Nat} {I9 : Int32} {RO2 : Nat → Option Nat} {fl t : Int64} {S : List Int32} {P : List PE} (hA : RCf Y J6 O7 I9 RO2 fl S P) : RCf Y t O7 I9 RO2 t S P := ⟨rfl, hA.2⟩
theorem find_nil {x : Int32} : findS [] x = none := rfl
theorem find_hit {c x : Int32} {S : List Int32} (h : nI S.length = x) : findS (c :: S) x = some c := if_pos h
theorem find_miss {c x : Int32} {S : List Int32} (h : ¬ nI S.length = x) : findS (c :: S) x = findS S x := if_neg h
/-! ===== the sheets ===== -/
def RMs (R8 R9 R10 : Nat → Int32) (B Z : Nat → Int32) (V : Nat → Nat → Int32) : Prop := ∀ q, q < 4 → R8 q = B q ∧ R9 q = Z q ∧ (∀ i, i < 16 → R10 (16 * q + i) &&& 255 = V q i) ∧ bOk (B q) ∧ vp_in (Z q) 17
abbrev RC1 (b z : Int32) (v : Nat → Int32) (B Z : Nat → Int32) (V : Nat → Nat → Int32) (q : Nat) : Prop := b = B q ∧ z = Z q ∧ (∀ i, i < 16 → v i &&& 255 = V q i) ∧ bOk (B q) ∧ vp_in (Z q) 17
def RCs (b0 z0 : Int32) (v0 : Nat → Int32) (b1 z1 : Int32) (v1 : Nat → Int32) (b2 z2 : Int32) (v2 : Nat → Int32) (b3 z3 : Int32) (v3 : Nat → Int32) (B Z : Nat → Int32) (V : Nat → Nat → Int32) : Prop := RC1 b0 z0 v0 B Z V 0 ∧ RC1 b1 z1 v1 B Z V 1 ∧ RC1 b2 z2 v2 B Z V 2 ∧ RC1 b3 z3 v3 B Z V 3
def shOk (q b n : Int32) : Bool := (m_within q 0 3 && (decide (b = 0) || decide (b = 8) || decide (b = 16) || decide (b = 32))) && (!decide (n < 0) && !decide (16 < n))
def aShB (B : Nat → Int32) (q b n : Int32) : Nat → Int32 := if shOk q b n then va_up B q.toNatClampNeg b else B
def aShZ (Z : Nat → Int32) (q b n : Int32) : Nat → Int32 := if shOk q b n then va_up Z q.toNatClampNeg (if b = 0 then 0 else n) else Z
def aShV (V : Nat → Nat → Int32) (q b n : Int32) : Nat → Nat → Int32 := if shOk q b n then va_up V q.toNatClampNeg (fun _ => 0) else V
def pWhy (B Z : Nat → Int32) (q i : Int32) : Int32 := if m_within q 0 3 then (if B q.toNatClampNeg = 0 then (-100002) else if m_within i 0 (Z q.toNatClampNeg - 1) then 0 else (-100001)) else (-100001)
def aPutV (B Z : Nat → Int32) (V : Nat → Nat → Int32) (q i v : Int32) : Nat → Nat → Int32 := if pWhy B Z q i = 0 then va_up V q.toNatClampNeg (va_up (V q.toNatClampNeg) i.toNatClampNeg (v &&& 255)) else V
def cOkc (Z : Nat → Int32) (s f t o n : Int32) : Bool := decide (0 ≤ f.toInt ∧ 0 ≤ o.toInt ∧ 0 ≤ n.toInt ∧ f.toInt + n.toInt ≤ (Z s.toNatClampNeg).toInt ∧ o.toInt + n.toInt ≤ (Z t.toNatClampNeg).toInt)
def cWhy (B Z : Nat → Int32) (s f t o n : Int32) : Int32 := if m_within s 0 3 && m_within t 0 3 then (if B s.toNatClampNeg = 0 ∨ B t.toNatClampNeg = 0 then (-100002) else if ¬ B s.toNatClampNeg = B t.toNatClampNeg then (-100004) else if cOkc Z s f t o n then 0 else (-100001)) else (-100001)
def aCpA (B Z : Nat → Int32) (s f t o n : Int32) : Int32 := if cWhy B Z s f t o n = 0 then n else cWhy B Z s f t o n
def aCpV (B Z : Nat → Int32) (V : Nat → Nat → Int32) (s f t o n : Int32) : Nat → Nat → Int32 := if cWhy B Z s f t o n = 0 then va_up V t.toNatClampNeg (va_cpy (V s.toNatClampNeg) (V t.toNatClampNeg) f.toNatClampNeg o.toNatClampNeg n.toNatClampNeg) else V
def plT (v : Nat → Int32) : Nat → Int64
  | 0 => 0
  | y + 1 => plT v y ||| ((v y).toInt64 <<< ((8 * nI y).toInt64 &&& 63))
def plW (B Z : Nat → Int32) (q : Int32) : Int32 := if m_within q 0 3 then (if B q.toNatClampNeg = 0 then (-100002) else if 8 < Z q.toNatClampNeg then (-100003) else 0) else (-100001)
abbrev plF (Z : Nat → Int32) (V : Nat → Nat → Int32) (q : Int32) : Int64 := plT (V q.toNatClampNeg) (Z q.toNatClampNeg).toNatClampNeg
def aPlA (B Z : Nat → Int32) (V : Nat → Nat → Int32) (S : List Int32) (q : Int32) : Int32 := if plW B Z q = 0 then aBecA S (plF Z V q) else plW B Z q
def aPlF (B Z : Nat → Int32) (V : Nat → Nat → Int32) (fl : Int64) (S : List Int32) (q : Int32) : Int64 := if plW B Z q = 0 then aFl fl S (plF Z V q) else fl
def aPlP (B Z : Nat → Int32) (V : Nat → Nat → Int32) (fl : Int64) (S : List Int32) (P : List PE) (q : Int32) : List PE := if plW B Z q = 0 then aPs fl S P (plF Z V q) else P
theorem becC_tw {Y : va_W} {a : Int64} {o : Option Nat} {i : Int32} {r : Nat → Option Nat} {fl t : Int64} {S : List Int32} {P : List PE} (hA : RCf Y a o i r fl S P) (h : S.any (tw t) = true) : RCf Y a o i r (aFl fl S t) S (aPs fl S P t) := by
  rw [(bec_tw (P := P) h).2.1, (bec_tw h).2.2]
  exact hA
theorem becC_kd {Y : va_W} {a : Int64} {o : Option Nat} {i : Int32} {r : Nat → Option Nat} {fl t : Int64} {S : List Int32} {P : List PE} (hA : RCf Y a o i r fl S P) (h : S.any (tw t) = false) (h2 : S.any (kd t) = true) : RCf Y a o i r (aFl fl S t) S (aPs fl S P t) := by
  rw [(bec_kd (P := P) h h2).2.1, (bec_kd h h2).2.2]
  exact hA
theorem becC_ok {Y : va_W} {a : Int64} {o : Option Nat} {i : Int32} {r : Nat → Option Nat} {fl t : Int64} {S : List Int32} {P : List PE} (hA : RCf Y a o i r fl S (aKeep fl S P)) (h : S.any (tw t) = false) (h2 : S.any (kd t) = false) : RCf Y t o i r (aFl fl S t) S (aPs fl S P t) := by
  rw [(bec_ok (fl := fl) (P := P) h h2).2.1, (bec_ok h h2).2.2]
  exact ⟨rfl, hA.2⟩
theorem becC_eq {Y : va_W} {a : Int64} {o : Option Nat} {i : Int32} {r : Nat → Option Nat} {fl t : Int64} {S : List Int32} {P : List PE} (e : t = a) (hA : RCf Y a o i r fl S (aKeep fl S P)) (h : S.any (tw t) = false) (h2 : S.any (kd t) = false) : RCf Y a o i r (aFl fl S t) S (aPs fl S P t) := by
  subst e
  exact becC_ok hA h h2
theorem any_c1 {p : Int32 → Bool} {c : Int32} {T : List Int32} (h : p c = true) : (c :: T).any p = true := by
  show (p c || T.any p) = true
  rw [h]; rfl
theorem any_c0 {p : Int32 → Bool} {c : Int32} {T : List Int32} (h : p c = false) : (c :: T).any p = T.any p := by
  show (p c || T.any p) = _
  rw [h]; rfl
theorem any_nil {p : Int32 → Bool} {S T : List Int32} (h : S.any p = T.any p) (hT : T = []) : S.any p = false := by rw [h, hT]; rfl
theorem tcE {c : Int32} {t : Int64} {b : Bool} (hp : ¬ sP c = 0) (h : g_touch (sP c) t = b) : m_edge t (sF c) (m_acr c) = b := by rw [← touch_c hp]; exact h
theorem rko1 {y b : Int32} (h : y < 0) : rOk y b = false := by rw [rOk, m_within, decide_eq_true h]; rfl
theorem rko2 {y b : Int32} (h : (7 : Int32) < y) : rOk y b = false := by rw [rOk, m_within, decide_eq_true h, Bool.not_true, Bool.and_false]; rfl
theorem rko3 {y b : Int32} (h : b < 0) : rOk y b = false := by rw [rOk, m_within, m_within, decide_eq_true h, Bool.not_true, Bool.false_and, Bool.and_false]
theorem rko4 {y b : Int32} (h : ¬ b ≤ (255 : Int32)) : rOk y b = false := by rw [rOk, m_within, m_within, decide_eq_true (i32_lt h), Bool.not_true, Bool.and_false, Bool.and_false]
theorem wi_t {v lo hi : Int32} (h : ¬ v < lo) (h2 : ¬ hi < v) : m_within v lo hi = true := by rw [m_within, decide_eq_false h, decide_eq_false h2]; rfl
theorem rowC_in {Y : va_W} {a : Int64} {o : Option Nat} {i : Int32} {r : Nat → Option Nat} {fl t : Int64} {S : List Int32} {P : List PE} {y b : Int32} (h1 : m_within y 0 7 = true) (h2 : m_within b 0 255 = true) (et : t = rowT fl y b) (hA : RCf Y a o i r (aFl fl S t) S (aPs fl S P t)) : RCf Y a o i r (aRowF fl S y b) S (aRowP fl S P y b) := by
  rw [← (row_in (S := S) (P := P) h1 h2 et).2.1, ← (row_in h1 h2 et).2.2]
  exact hA
theorem rowC_out {Y : va_W} {a : Int64} {o : Option Nat} {i : Int32} {r : Nat → Option Nat} {fl : Int64} {S : List Int32} {P : List PE} {y b : Int32} (q : rOk y b = false) (hA : RCf Y a o i r fl S P) : RCf Y a o i r (aRowF fl S y b) S (aRowP fl S P y b) := by
  rw [(row_out (S := S) (P := P) q).2.1, (row_out q).2.2]
  exact hA
/-! stones -/
theorem gOr_y {a : Int64} {c : Int32} {T : List Int32} (h : g_under (sK c) 1 = true) : gOr a (c :: T) = gOr (a ||| sP c) T := by
  show gOr (if m_isG c then a ||| sP c else a) T = _
  rw [← und_G, h]; rfl
theorem gOr_n {a : Int64} {c : Int32} {T : List Int32} (h : g_under (sK c) 1 = false) : gOr a (c :: T) = gOr a T := by
  show gOr (if m_isG c then a ||| sP c else a) T = _
  rw [← und_G, h]; rfl
def stF (Y : va_W) (S : List Int32) (x : Int32) (o : Option Nat) : Prop := (o = none ∧ findS S x = none) ∨ ∃ (b : Nat) (be : Option Nat) (c k : Int32), o = some b ∧ stC b be x (sK c) (sF c) (m_acr c) k (sP c) ∈ Y ∧ findS S x = some c
theorem stF_some {Y : va_W} {S : List Int32} {x : Int32} {o : Option Nat} (h : stF Y S x o) (q : ¬ o = none) : ∃ (b : Nat) (be : Option Nat) (c k : Int32), o = some b ∧ stC b be x (sK c) (sF c) (m_acr c) k (sP c) ∈ Y ∧ findS S x = some c := by
  rcases h with h | h
  · exact absurd h.1 q
  · exact h
theorem stF_none {Y : va_W} {S : List Int32} {x : Int32} (h : stF Y S x none) : findS S x = none := by
  rcases h with h | ⟨b, be, c, k, e, -⟩
  · exact h.2
  · cases e
def g_isPl (fl : Int64) (f : Int32) (b : Bool) : Bool := !decide (g_place f b = 0) && decide (g_place f b &&& (fl ^^^ (-1)) = 0)
theorem pl_1 {fl : Int64} {f : Int32} {b : Bool} (h : g_place f b = 0) : (0 : Int32) = bI (g_isPl fl f b) := by rw [g_isPl, decide_eq_true h]; rfl
theorem pl_2 {fl : Int64} {f : Int32} {b : Bool} (h : ¬ g_place f b &&& (fl ^^^ (-1)) = 0) : (0 : Int32) = bI (g_isPl fl f b) := by rw [g_isPl, decide_eq_false h, Bool.and_false]; rfl
theorem pl_3 {fl : Int64} {f : Int32} {b : Bool} (h : ¬ g_place f b = 0) (h2 : g_place f b &&& (fl ^^^ (-1)) = 0) : (1 : Int32) = bI (g_isPl fl f b) := by rw [g_isPl, decide_eq_false h, decide_eq_true h2]; rfl
theorem gpm {f : Int32} {b : Bool} (h : g_isField f = true) : g_place f b = m_place f b := by
  obtain ⟨j, hj, rfl⟩ := isF_in h
  exact gm_place ⟨j, hj⟩ b
theorem pl_no {fl a : Int64} {f : Int32} {b : Bool} (e : a = fl) (hf : g_isField f = true) (h : g_isPl a f b = false) : m_place f b = 0 ∨ ¬ m_place f b &&& (fl ^^^ (-1)) = 0 := by
  subst e
  rw [← gpm hf]
  unfold g_isPl at h
  by_cases z : g_place f b = 0
  · exact Or.inl z
  · rw [decide_eq_false z, Bool.not_false, Bool.true_and, decide_eq_false_iff_not] at h
    exact Or.inr h
theorem pl_yes {fl a : Int64} {f : Int32} {b : Bool} (e : a = fl) (hf : g_isField f = true) (h : g_isPl a f b = true) : ¬ m_place f b = 0 ∧ m_place f b &&& (fl ^^^ (-1)) = 0 := by
  subst e
  rw [← gpm hf]
  unfold g_isPl at h
  rw [Bool.and_eq_true, Bool.not_eq_true', decide_eq_false_iff_not, decide_eq_true_iff] at h
  exact h
theorem sgC (k f c : Int32) : sGood k f c = (g_isKind k && (g_isField f && g_fits k c)) := by rw [isK_eq, isF_eq, fits_eq]; rfl
theorem sg_t {k f c : Int32} (h1 : g_isKind k = true) (h2 : g_isField f = true) (h3 : g_fits k c = true) : sGood k f c = true := by rw [sgC, h1, h2, h3]; rfl
theorem sg_1 {k f c : Int32} (h1 : g_isKind k = false) : sGood k f c = false := by rw [sgC, h1]; rfl
theorem sg_2 {k f c : Int32} (h2 : g_isField f = false) : sGood k f c = false := by rw [sgC, h2, Bool.false_and, Bool.and_false]
theorem sg_3 {k f c : Int32} (h3 : g_fits k c = false) : sGood k f c = false := by rw [sgC, h3, Bool.and_false, Bool.and_false]
theorem und1 {k : Int32} (h : g_under k 1 = true) : k = 1 ∨ k = 2 := by
  unfold g_under at h
  rw [decide_eq_false (show ¬ (1 : Int32) = 0 by decide), decide_eq_true (rfl : (1 : Int32) = 1), Bool.false_or, Bool.true_and, Bool.or_eq_true, decide_eq_true_iff, decide_eq_true_iff] at h
  exact h
theorem und0 {k : Int32} (h : g_under k 1 = false) : ¬ (k = 1 ∨ k = 2) := by
  unfold g_under at h
  rw [decide_eq_false (show ¬ (1 : Int32) = 0 by decide), decide_eq_true (rfl : (1 : Int32) = 1), Bool.false_or, Bool.true_and, Bool.or_eq_false_iff, decide_eq_false_iff_not, decide_eq_false_iff_not] at h
  exact fun z => z.elim h.1 h.2
theorem ant_t {S : List Int32} {f : Int32} {b : Bool} (hf : g_isField f = true) (h : ¬ g_place f b &&& gOr 0 S = 0) : S.any (gl (m_place f b)) = true := by
  rw [gpm hf, gOr_0] at h
  cases q : S.any (gl (m_place f b)) with
  | true => rfl
  | false => exact absurd q h
theorem nt_u {S : List Int32} {p : Int64} {k : Int32} (h : g_under k 1 = false) : ¬ ((k = 1 ∨ k = 2) ∧ S.any (gl p) = true) := fun z => und0 h z.1
theorem nt_g {S : List Int32} {f k : Int32} {b : Bool} (hf : g_isField f = true) (h : g_place f b &&& gOr 0 S = 0) : ¬ ((k = 1 ∨ k = 2) ∧ S.any (gl (m_place f b)) = true) := by
  rw [gpm hf, gOr_0] at h
  intro z
  rw [h] at z
  exact absurd z.2 (by decide)
theorem tcN {f : Int32} {b r : Bool} {t : Int64} (hf : g_isField f = true) (hp : ¬ m_place f b = 0) (h : g_touch (g_place f b) t = r) : m_edge t f b = r := by
  rw [gpm hf] at h
  obtain ⟨j, hj, rfl⟩ := isF_in hf
  rw [← touch_edge hj hp]
  exact h
theorem stoC_no {Y : va_W} {a' : Int64} {o : Option Nat} {i : Int32} {r : Nat → Option Nat} {fl : Int64} {S : List Int32} {P : List PE} {k f c w : Int32} {b : Bool} (h : sWhy fl S k f b c = w) (hw : ¬ w = 0) (hA : RCf Y a' o i r fl S P) : RCf Y a' o i r fl (aStoS fl S k f b c) (aStoP fl S P k f b c) := by
  rw [(sto_no (P := P) h hw).2.1, (sto_no h hw).2.2]
  exact hA
theorem st_new {Y : va_W} {q : Nat} {o : Option Nat} {k f c : Int32} {b : Bool} {S : List Int32} (hg : sGood k f c = true) (hp : ¬ m_place f b = 0) (hm : stC q o (nI S.length) k f b c (g_place f b) ∈ Y) (hc : chR Y S o) : chR Y (sCode k f b c :: S) (some q) := by
  have hg2 := hg
  rw [sgC, Bool.and_eq_true, Bool.and_eq_true] at hg2
  rw [gpm hg2.2.1] at hm
  obtain ⟨k', f', c', hk, hf, hcc, rfl, rfl, rfl⟩ := good_ex hg
  obtain ⟨e1, e2, e3⟩ := sc_dec (b := b) hk hf hcc
  refine ⟨q, o, nI c', rfl, ?_, ?_, hc⟩
  · rw [e1, sP, e2, e3]
    exact hm
  · rw [sP, e2, e3]
    exact hp
theorem stoC_ok {Y : va_W} {a' : Int64} {o : Option Nat} {i : Int32} {r : Nat → Option Nat} {fl : Int64} {S : List Int32} {P : List PE} {k f c : Int32} {b : Bool} {q : Nat} (h : sWhy fl S k f b c = 0) (hA : RCf Y a' o i r fl S (aKeep fl S P)) (hn : S.length < 20) (hc : chR Y (sCode k f b c :: S) (some q)) : RCf Y a' (some q) i r fl (aStoS fl S k f b c) (aStoP fl S P k f b c) := by
  rw [(sto_ok (P := P) h).2.1, (sto_ok h).2.2]
  exact ⟨hA.1, ⟨hc, hn⟩, hA.2.2⟩
theorem ln_lt {S : List Int32} (hl : S.length ≤ 20) (h : nI S.length < 20) : S.length < 20 := (nI_ltI (b := 20) (by omega) (by decide)).mp h
theorem ln_ge {S : List Int32} (hl : S.length ≤ 20) (h : ¬ nI S.length < 20) : S.length = 20 := by
  rcases Nat.lt_or_ge S.length 20 with z | z
  · exact absurd ((nI_ltI (b := 20) (by omega) (by decide)).mpr z) h
  · omega
theorem lsc_0 {Y : va_W} {a : Int64} {o : Option Nat} {i : Int32} {r : Nat → Option Nat} {fl : Int64} {S : List Int32} {P : List PE} (q : o = none) (hA : RCf Y a o i r fl S P) : RCf Y a none i r fl S.tail (aLooseP fl S P) ∧ (-100006 : Int32) = aLooseA S := by
  have e := chR_nil hA.2.1.1 q
  subst e
  subst q
  exact ⟨hA, rfl⟩
theorem lsc_1 {Y : va_W} {a : Int64} {o be : Option Nat} {i c : Int32} {r : Nat → Option Nat} {fl : Int64} {S T : List Int32} {P : List PE} (hS : S = c :: T) (hA : RCf Y a o i r fl S (aKeep fl S P)) (hc : chR Y T be) : RCf Y a be i r fl S.tail (aLooseP fl S P) ∧ nI T.length = aLooseA S := by
  subst hS
  have hl := hA.2.1.2
  rw [List.length_cons] at hl
  exact ⟨⟨hA.1, ⟨hc, by show T.length ≤ 20; omega⟩, hA.2.2⟩, rfl⟩
theorem lc_c {Y : va_W} {a : Int64} {o be : Option Nat} {i c : Int32} {r : Nat → Option Nat} {fl : Int64} {S T : List Int32} {P : List PE} (hS : S = c :: T) (hA : RCf Y a o i r fl S P) (hc : chR Y T be) : RCf Y a be i r fl T P := by
  subst hS
  have hl := hA.2.1.2
  rw [List.length_cons] at hl
  exact ⟨hA.1, ⟨hc, by omega⟩, hA.2.2⟩
theorem uc_no {Y : va_W} {J6 : Int64} {O7 : Option Nat} {I9 : Int32} {RO2 : Nat → Option Nat} {fl : Int64} {S : List Int32} {P : List PE} (hA : RCf Y J6 O7 I9 RO2 fl S P) (h0 : ¬ I9 = 0) (ho : none = RO2 (I9 - 1).toNatClampNeg) : False := by
  obtain ⟨b, f, l, h, e, -⟩ := uc_1 hA h0
  rw [e] at ho
  cases ho
theorem asC_1 {S : List Int32} {x k : Int32} (h : findS S x = none) : (-100001 : Int32) = aAs S x k := by rw [aAs, h]
theorem asC_e {S : List Int32} {x c : Int32} (h : findS S x = some c) : findS S x = if true then some c else none := h
