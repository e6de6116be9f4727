/-! ===== what both hold: the floor, the stones (the latest first), the pasts (the latest first), the sheets ===== -/
def eL {α : Type} (f : Nat → α) : Nat → List α
  | 0 => []
  | n + 1 => f n :: eL f n
theorem eL_len {α : Type} (f : Nat → α) : ∀ n, (eL f n).length = n
  | 0 => rfl
  | n + 1 => congrArg Nat.succ (eL_len f n)
theorem eL_congr {α : Type} {f g : Nat → α} : ∀ n, (∀ i, i < n → f i = g i) → eL f n = eL g n
  | 0, _ => rfl
  | n + 1, h => by
    show f n :: eL f n = g n :: eL g n
    rw [h n (Nat.lt_succ_self n), eL_congr n (fun i hi => h i (Nat.lt_succ_of_lt hi))]
theorem eL_shift {α : Type} {f g : Nat → α} : ∀ n, (∀ i, i < n → g i = f (i + 1)) → eL g n = (eL f (n + 1)).take n
  | 0, _ => rfl
  | n + 1, h => by
    show g n :: eL g n = f (n + 1) :: (eL f (n + 1)).take n
    rw [h n (Nat.lt_succ_self n), eL_shift n (fun i hi => h i (Nat.lt_succ_of_lt hi))]
theorem any_t {α : Type} {f : Nat → α} {p : α → Bool} {i : Nat} (h : p (f i) = true) : ∀ n, i < n → (eL f n).any p = true
  | 0, hi => absurd hi (Nat.not_lt_zero _)
  | n + 1, hi => by
    show (p (f n) || (eL f n).any p) = true
    by_cases e : i = n
    · rw [← e, h]
      rfl
    · rw [any_t h n (Nat.lt_of_le_of_ne (Nat.le_of_lt_succ hi) e), Bool.or_true]
theorem any_f {α : Type} {f : Nat → α} {p : α → Bool} : ∀ n, (∀ i, i < n → p (f i) = false) → (eL f n).any p = false
  | 0, _ => rfl
  | n + 1, h => by
    show (p (f n) || (eL f n).any p) = false
    rw [h n (Nat.lt_succ_self n), any_f n (fun i hi => h i (Nat.lt_succ_of_lt hi))]
    rfl
abbrev PE : Type := Int64 × List Int32
def aKeep (fl : Int64) (S : List Int32) (P : List PE) : List PE := ((fl, S) :: P).take 20
theorem keepL {e e' : Nat → PE} {k n d : Nat} {x : PE} (hk : k = n + d) (hn : n < 20) (hd : d = 0 ∨ (d = 1 ∧ n = 19)) (hx : e' n = x) (he : ∀ i, i < n → e' i = e (i + d)) : eL e' (n + 1) = (x :: eL e k).take 20 := by
  subst hk
  show e' n :: eL e' n = _
  rw [hx]
  rcases hd with rfl | ⟨rfl, rfl⟩
  · have h1 : eL e' n = eL e n := eL_congr n he
    have h2 : (x :: eL e n).take 20 = x :: eL e n := List.take_of_length_le (by rw [List.length_cons, eL_len]; omega)
    rw [h1]
    exact h2.symm
  · have h1 : eL e' 19 = (eL e 20).take 19 := eL_shift 19 he
    rw [h1]
    rfl
/-! a stone's number, as the reference has it -/
abbrev sK (c : Int32) : Int32 := c &&& 3
abbrev sF (c : Int32) : Int32 := (c >>> ((2 : Int32) &&& 31)) &&& 63
abbrev sP (c : Int32) : Int64 := m_place (sF c) (m_acr c)
def tw (t : Int64) (c : Int32) : Bool := !decide (sP c &&& (t ^^^ (-1)) = 0)
def kd (t : Int64) (c : Int32) : Bool := decide (sK c = 3) && !m_edge t (sF c) (m_acr c)
theorem tw_t {t : Int64} {c : Int32} (h : ¬ sP c &&& (t ^^^ (-1)) = 0) : tw t c = true := by rw [tw, decide_eq_false h]; rfl
theorem tw_f {t : Int64} {c : Int32} (h : sP c &&& (t ^^^ (-1)) = 0) : tw t c = false := by rw [tw, decide_eq_true h]; rfl
theorem kd_t {t : Int64} {c : Int32} (h : sK c = 3) (h2 : m_edge t (sF c) (m_acr c) = false) : kd t c = true := by rw [kd, decide_eq_true h, h2]; rfl
theorem kd_f1 {t : Int64} {c : Int32} (h : ¬ sK c = 3) : kd t c = false := by rw [kd, decide_eq_false h]; rfl
theorem kd_f2 {t : Int64} {c : Int32} (h2 : m_edge t (sF c) (m_acr c) = true) : kd t c = false := by rw [kd, h2, Bool.not_true, Bool.and_false]
def aOk (S : List Int32) (t : Int64) : Bool := !S.any (tw t) && !S.any (kd t)
def aBecA (S : List Int32) (t : Int64) : Int32 := if S.any (tw t) then (-100007) else if S.any (kd t) then (-100004) else nI (m_cnt t 64)
def aFl (fl : Int64) (S : List Int32) (t : Int64) : Int64 := if aOk S t then t else fl
def aPs (fl : Int64) (S : List Int32) (P : List PE) (t : Int64) : List PE := if aOk S t then aKeep fl S P else P
theorem bec_tw {fl t : Int64} {S : List Int32} {P : List PE} (h : S.any (tw t) = true) : aBecA S t = (-100007) ∧ aFl fl S t = fl ∧ aPs fl S P t = P := by
  have e : aOk S t = false := by rw [aOk, h]; rfl
  refine ⟨?_, ?_, ?_⟩
  · rw [aBecA, h]; rfl
  · rw [aFl, e]; rfl
  · rw [aPs, e]; rfl
theorem bec_kd {fl t : Int64} {S : List Int32} {P : List PE} (h : S.any (tw t) = false) (h2 : S.any (kd t) = true) : aBecA S t = (-100004) ∧ aFl fl S t = fl ∧ aPs fl S P t = P := by
  have e : aOk S t = false := by rw [aOk, h2, Bool.not_true, Bool.and_false]
  refine ⟨?_, ?_, ?_⟩
  · rw [aBecA, h, h2]; rfl
  · rw [aFl, e]; rfl
  · rw [aPs, e]; rfl
theorem bec_ok {fl t : Int64} {S : List Int32} {P : List PE} (h : S.any (tw t) = false) (h2 : S.any (kd t) = false) : aBecA S t = nI (m_cnt t 64) ∧ aFl fl S t = t ∧ aPs fl S P t = aKeep fl S P := by
  have e : aOk S t = true := by rw [aOk, h, h2]; rfl
  refine ⟨?_, ?_, ?_⟩
  · rw [aBecA, h, h2]; rfl
  · rw [aFl, e]; rfl
  · rw [aPs, e]; rfl
def rowT (fl : Int64) (y b : Int32) : Int64 := (fl &&& (((255 : Int64) <<< ((8 * y).toInt64 &&& 63)) ^^^ (-1))) ||| (b.toInt64 <<< ((8 * y).toInt64 &&& 63))
def rOk (y b : Int32) : Bool := m_within y 0 7 && m_within b 0 255
def aRowA (fl : Int64) (S : List Int32) (y b : Int32) : Int32 := if rOk y b then aBecA S (rowT fl y b) else (-100001)
def aRowF (fl : Int64) (S : List Int32) (y b : Int32) : Int64 := if rOk y b then aFl fl S (rowT fl y b) else fl
def aRowP (fl : Int64) (S : List Int32) (P : List PE) (y b : Int32) : List PE := if rOk y b then aPs fl S P (rowT fl y b) else P
def aHas (fl : Int64) (f : Int32) : Int32 := if m_within f 0 63 then bI (m_hasBit fl f) else (-100001)
def aUndoA (P : List PE) : Int32 := match P with | [] => (-100006) | _ :: Q => nI Q.length
def aUndoF (fl : Int64) (P : List PE) : Int64 := match P with | [] => fl | x :: _ => x.1
def aUndoS (S : List Int32) (P : List PE) : List Int32 := match P with | [] => S | x :: _ => x.2
def aUndoP (P : List PE) : List PE := match P with | [] => [] | _ :: Q => Q
def aLooseA (S : List Int32) : Int32 := match S with | [] => (-100006) | _ :: T => nI T.length
def aLooseP (fl : Int64) (S : List Int32) (P : List PE) : List PE := match S with | [] => P | _ :: _ => aKeep fl S P
def findS : List Int32 → Int32 → Option Int32
  | [], _ => none
  | c :: S, x => if nI S.length = x then some c else findS S x
def aAs (S : List Int32) (x k : Int32) : Int32 := match findS S x with | none => (-100001) | some c => if m_within k 0 3 then (if g_under (sK c) k then x else (-100004)) else (-100001)
def sCode (k f : Int32) (b : Bool) (c : Int32) : Int32 := ((k ||| (f <<< ((2 : Int32) &&& 31))) ||| (if b then 256 else 0)) ||| (c <<< ((9 : Int32) &&& 31))
def sGood (k f c : Int32) : Bool := m_within k 0 3 && (m_within f 0 63 && (if k = 2 then m_within c 1 99 else decide (c = 0)))
def gl (x : Int64) (c : Int32) : Bool := m_isG c && !decide (sP c &&& x = 0)
def sWhy (fl : Int64) (S : List Int32) (k f : Int32) (b : Bool) (c : Int32) : Int32 := if sGood k f c then (if m_place f b = 0 ∨ ¬ m_place f b &&& (fl ^^^ (-1)) = 0 then (-100003) else if (k = 1 ∨ k = 2) ∧ S.any (gl (m_place f b)) = true then (-100007) else if k = 3 ∧ m_edge fl f b = false then (-100004) else if S.length = 20 then (-100005) else 0) else (-100001)
def aStoA (fl : Int64) (S : List Int32) (k f : Int32) (b : Bool) (c : Int32) : Int32 := if sWhy fl S k f b c = 0 then nI S.length else sWhy fl S k f b c
def aStoS (fl : Int64) (S : List Int32) (k f : Int32) (b : Bool) (c : Int32) : List Int32 := if sWhy fl S k f b c = 0 then sCode k f b c :: S else S
def aStoP (fl : Int64) (S : List Int32) (P : List PE) (k f : Int32) (b : Bool) (c : Int32) : List PE := if sWhy fl S k f b c = 0 then aKeep fl S P else P
/-! the reference's side -/
def pe (RJ : Nat → Int64) (R3 R4 : Nat → Int32) (i : Nat) : PE := (RJ i, eL (fun s => R4 (20 * i + s)) (R3 i).toNatClampNeg)
def RMf (J0 : Int64) (I1 I12 : Int32) (R1 R3 R4 : Nat → Int32) (RJ2 : Nat → Int64) (fl : Int64) (S : List Int32) (P : List PE) : Prop := J0 = fl ∧ (∃ n, n ≤ 20 ∧ I1 = nI n ∧ S = eL R1 n) ∧ ∃ k, k ≤ 20 ∧ I12 = nI k ∧ P = eL (pe RJ2 R3 R4) k
def shf {α : Type} (d : Nat) (f g : Nat → α) (c : Nat) : Prop := ∀ q, g q = if q < c then f (q + d) else f q
theorem shf_0 {α : Type} {d : Nat} {f : Nat → α} : shf d f f 0 := fun q => by rw [if_neg (Nat.not_lt_zero q)]
theorem shf_gen {α : Type} {d c : Nat} {f g g' : Nat → α} (hd : 0 < d) (h : shf d f g c) (h1 : g' c = g (c + d)) (h2 : ∀ q, q ≠ c → g' q = g q) : shf d f g' (c + 1) := by
  intro q
  by_cases e : q = c
  · subst e
    rw [h1, h, if_neg (by omega), if_pos (by omega)]
  · rw [h2 q e, h]
    by_cases l : q < c
    · rw [if_pos l, if_pos (by omega)]
    · rw [if_neg l, if_neg (by omega)]
theorem cl20 {k : Nat} (hk : k ≤ 20) : (nI k).toNatClampNeg = k := nI_clamp (by omega)
theorem ix400 {k s : Nat} (hk : k ≤ 20) (hs : s ≤ 20) : ((20 : Int32) * nI k + nI s).toNatClampNeg = 20 * k + s := by
  rw [show (20 : Int32) = nI 20 from rfl, pk_mul, nI_add, nI_clamp (by omega)]
theorem shf_L {f g : Nat → Int64} {k : Nat} (hk : k < 19) (h : shf 1 f g k) : shf 1 f (vp_updL g (nI k).toNatClampNeg (g (nI (k + 1)).toNatClampNeg)) (k + 1) := by
  rw [cl20 (by omega), cl20 (by omega)]
  exact shf_gen (by decide) h pk_uLs (fun q hq => pk_uLn hq)
theorem shf_I {f g : Nat → Int32} {k : Nat} (hk : k < 19) (h : shf 1 f g k) : shf 1 f (upd g (nI k).toNatClampNeg (g (nI (k + 1)).toNatClampNeg)) (k + 1) := by
  rw [cl20 (by omega), cl20 (by omega)]
  exact shf_gen (by decide) h pk_us (fun q hq => pk_un hq)
theorem shf_O {f g : Nat → Option Nat} {k : Nat} {o : Option Nat} (hk : k < 19) (ho : o = g (nI (k + 1)).toNatClampNeg) (h : shf 1 f g k) : shf 1 f (va_up g (nI k).toNatClampNeg o) (k + 1) := by
  rw [cl20 (by omega)] at ho ⊢
  exact shf_gen (by decide) h (by rw [va_up_self, ho]) (fun q hq => va_up_ne _ _ hq)
theorem shf_4 {f g : Nat → Int32} {k s : Nat} (hk : k < 19) (hs : s < 20) (h : shf 20 f g (20 * k + s)) : shf 20 f (upd g ((20 : Int32) * nI k + nI s).toNatClampNeg (g ((20 : Int32) * nI (k + 1) + nI s).toNatClampNeg)) (20 * k + (s + 1)) := by
  rw [ix400 (by omega) (by omega), ix400 (by omega) (by omega), show 20 * (k + 1) + s = 20 * k + s + 20 by omega]
  exact shf_gen (by decide) h pk_us (fun q hq => pk_un hq)
theorem shf_at {α : Type} {d c : Nat} {f g : Nat → α} (h : shf d f g c) {n : Nat} (hn : n ≤ c) : ∀ i, i < n → g i = f (i + d) := fun i hi => by rw [h, if_pos (by omega)]
/-- while the stones go into the past: those below s are there -/
def kpI (J0 : Int64) (I1 I12 : Int32) (R1 R3 R4 : Nat → Int32) (RJ2 : Nat → Int64) (k' : Int32) (R3' R4' : Nat → Int32) (RJ2' : Nat → Int64) (s : Nat) : Prop :=
  ∃ n d, n < 20 ∧ k' = nI n ∧ I12 = nI (n + d) ∧ (d = 0 ∨ (d = 1 ∧ n = 19)) ∧ RJ2' n = J0 ∧ R3' n = I1 ∧ (∀ i, i < n → RJ2' i = RJ2 (i + d)) ∧ (∀ i, i < n → R3' i = R3 (i + d)) ∧ (∀ q, q < 20 * n → R4' q = R4 (q + 20 * d)) ∧ ∀ i, i < s → R4' (20 * n + i) = R1 i
theorem kp_in {J0 : Int64} {I1 I12 k' : Int32} {R1 R3 R4 g3 g4 : Nat → Int32} {RJ2 g2 : Nat → Int64} {n d : Nat} (hn : n < 20) (hk : k' = nI n) (hi : I12 = nI (n + d)) (hd : d = 0 ∨ (d = 1 ∧ n = 19)) (h2 : ∀ i, i < n → g2 i = RJ2 (i + d)) (h3 : ∀ i, i < n → g3 i = R3 (i + d)) (h4 : ∀ q, q < 20 * n → g4 q = R4 (q + 20 * d)) : kpI J0 I1 I12 R1 R3 R4 RJ2 k' (upd g3 k'.toNatClampNeg I1) g4 (vp_updL g2 k'.toNatClampNeg J0) 0 := by
  have e : k'.toNatClampNeg = n := by rw [hk]; exact cl20 (by omega)
  rw [e]
  exact ⟨n, d, hn, hk, hi, hd, pk_uLs, pk_us, fun i h => by rw [pk_uLn (by omega)]; exact h2 i h, fun i h => by rw [pk_un (by omega)]; exact h3 i h, h4, fun i h => absurd h (Nat.not_lt_zero _)⟩
theorem kp_0 {J0 : Int64} {I1 I12 : Int32} {R1 R3 R4 : Nat → Int32} {RJ2 : Nat → Int64} (h : vp_in I12 21) (h2 : ¬ I12 = 20) : kpI J0 I1 I12 R1 R3 R4 RJ2 I12 (upd R3 I12.toNatClampNeg I1) R4 (vp_updL RJ2 I12.toNatClampNeg J0) 0 := by
  obtain ⟨n, hn, e⟩ := vp_in_of (in_ne h h2) (by decide)
  exact kp_in (d := 0) hn e e (Or.inl rfl) (fun _ _ => rfl) (fun _ _ => rfl) (fun _ _ => rfl)
theorem kp_1 {J0 : Int64} {I1 I12 m12 : Int32} {R1 R3 R4 g3 g4 : Nat → Int32} {RJ2 g2 : Nat → Int64} {k : Nat} (h0 : I12 = 20) (hm : m12 = 20) (hk : k + 1 = 20) (h2 : shf 1 RJ2 g2 k) (h3 : shf 1 R3 g3 k) (h4 : shf 20 R4 g4 (20 * k)) : kpI J0 I1 I12 R1 R3 R4 RJ2 (m12 - 1) (upd g3 (m12 - 1).toNatClampNeg I1) g4 (vp_updL g2 (m12 - 1).toNatClampNeg J0) 0 := by
  have e : k = 19 := by omega
  subst e
  exact kp_in (n := 19) (d := 1) (by decide) (by rw [hm]; rfl) (by rw [h0]; rfl) (Or.inr ⟨rfl, rfl⟩) (shf_at h2 (Nat.le_refl _)) (shf_at h3 (Nat.le_refl _)) (shf_at h4 (Nat.le_refl _))
theorem kp_s {J0 : Int64} {I1 I12 k' : Int32} {R1 R3 R4 g3 g4 : Nat → Int32} {RJ2 g2 : Nat → Int64} {s : Nat} (hs : s < 20) (h : kpI J0 I1 I12 R1 R3 R4 RJ2 k' g3 g4 g2 s) : kpI J0 I1 I12 R1 R3 R4 RJ2 k' g3 (upd g4 ((20 : Int32) * k' + nI s).toNatClampNeg (R1 (nI s).toNatClampNeg)) g2 (s + 1) := by
  obtain ⟨n, d, hn, hk, hi, hd, a1, a2, a3, a4, a5, a6⟩ := h
  subst hk
  rw [ix400 (by omega) (by omega), cl20 (by omega)]
  refine ⟨n, d, hn, rfl, hi, hd, a1, a2, a3, a4, fun q hq => by rw [pk_un (by omega)]; exact a5 q hq, fun i h => ?_⟩
  by_cases e : i = s
  · subst e
    rw [pk_us]
  · rw [pk_un (by omega)]
    exact a6 i (by omega)
theorem kp_end {J0 : Int64} {I1 I12 k' : Int32} {R1 R3 R4 g3 g4 : Nat → Int32} {RJ2 g2 : Nat → Int64} {s : Nat} {fl : Int64} {S : List Int32} {P : List PE} (hA : RMf J0 I1 I12 R1 R3 R4 RJ2 fl S P) (hR3 : ∀ i, i < 20 → vp_in (R3 i) 21) (hs : s = 20) (h : kpI J0 I1 I12 R1 R3 R4 RJ2 k' g3 g4 g2 s) : RMf J0 I1 (k' + 1) R1 g3 g4 g2 fl S (aKeep fl S P) := by
  obtain ⟨n, d, hn, hk, hi, hd, a1, a2, a3, a4, a5, a6⟩ := h
  obtain ⟨rfl, ⟨ns, hns, rfl, rfl⟩, k, hk20, hik, rfl⟩ := hA
  subst hs
  refine ⟨rfl, ⟨ns, hns, rfl, rfl⟩, n + 1, hn, by rw [hk, nI_1], ?_⟩
  have ek : k = n + d := (nI_eq (by omega) (by rcases hd with h | h <;> omega)).mp (hik.symm.trans hi)
  refine (keepL (e := pe RJ2 R3 R4) ek hn hd ?_ ?_).symm
  · show (g2 n, eL (fun s => g4 (20 * n + s)) (g3 n).toNatClampNeg) = _
    rw [a1, a2, cl20 hns, eL_congr ns (fun i h => a6 i (by omega))]
  · intro i hi2
    show (g2 i, eL (fun s => g4 (20 * i + s)) (g3 i).toNatClampNeg) = (RJ2 (i + d), eL (fun s => R4 (20 * (i + d) + s)) (R3 (i + d)).toNatClampNeg)
    rw [a3 i hi2, a4 i hi2]
    refine congrArg (Prod.mk (RJ2 (i + d))) (eL_congr _ (fun s hs => ?_))
    have hl := in_lt (hR3 (i + d) (by rcases hd with h | h <;> omega))
    rw [a5 _ (by omega)]
    exact congrArg R4 (by omega)
theorem un_end {J0 : Int64} {I1 I12 : Int32} {R1 R3 R4 R1' : Nat → Int32} {RJ2 : Nat → Int64} {s : Nat} {fl : Int64} {S : List Int32} {P : List PE} (hA : RMf J0 I1 I12 R1 R3 R4 RJ2 fl S P) (hne : ¬ I12 = 0) (hR3 : ∀ i, i < 20 → vp_in (R3 i) 21) (hs : s = 20) {x0 : Int64} {x1 x12 : Int32} (hu : x0 = RJ2 (I12 - 1).toNatClampNeg ∧ x1 = R3 (I12 - 1).toNatClampNeg ∧ x12 = I12 - 1) (h : ∀ i, i < s → R1' i = R4 ((20 : Int32) * x12 + nI i).toNatClampNeg) : RMf x0 x1 x12 R1' R3 R4 RJ2 (aUndoF fl P) (aUndoS S P) (aUndoP P) ∧ x12 = aUndoA P := by
  obtain ⟨rfl, hS, k, hk20, rfl, rfl⟩ := hA
  obtain ⟨rfl, rfl, rfl⟩ := hu
  subst hs
  cases k with
  | zero => exact absurd rfl hne
  | succ k =>
    rw [nI_s1] at h ⊢
    rw [cl20 (by omega)]
    obtain ⟨j, hj, ej⟩ := vp_in_of (hR3 k (by omega)) (by decide)
    refine ⟨⟨rfl, ⟨j, by omega, ej, ?_⟩, k, by omega, rfl, rfl⟩, ?_⟩
    · show eL (fun s => R4 (20 * k + s)) (R3 k).toNatClampNeg = eL R1' j
      rw [ej, cl20 (by omega)]
      exact eL_congr j (fun i hi => by rw [h i (by omega), ix400 (by omega) (by omega)])
    · show nI k = nI (eL (pe RJ2 R3 R4) k).length
      rw [eL_len]
theorem un_0 {J0 : Int64} {I1 I12 : Int32} {R1 R3 R4 : Nat → Int32} {RJ2 : Nat → Int64} {fl : Int64} {S : List Int32} {P : List PE} (hA : RMf J0 I1 I12 R1 R3 R4 RJ2 fl S P) (h0 : I12 = 0) : RMf J0 I1 I12 R1 R3 R4 RJ2 (aUndoF fl P) (aUndoS S P) (aUndoP P) ∧ (-100006 : Int32) = aUndoA P := by
  obtain ⟨h1, hS, k, hk20, rfl, rfl⟩ := hA
  have e : k = 0 := (nI_eq (b := 0) (by omega) (by decide)).mp h0
  subst e
  exact ⟨⟨h1, hS, 0, by decide, rfl, rfl⟩, rfl⟩
theorem lo_0 {J0 : Int64} {I1 I12 : Int32} {R1 R3 R4 : Nat → Int32} {RJ2 : Nat → Int64} {fl : Int64} {S : List Int32} {P : List PE} (hA : RMf J0 I1 I12 R1 R3 R4 RJ2 fl S P) (h0 : I1 = 0) : RMf J0 I1 I12 R1 R3 R4 RJ2 fl S.tail (aLooseP fl S P) ∧ (-100006 : Int32) = aLooseA S := by
  obtain ⟨h1, ⟨n, hn, rfl, rfl⟩, hk⟩ := hA
  have e : n = 0 := (nI_eq (b := 0) (by omega) (by decide)).mp h0
  subst e
  exact ⟨⟨h1, ⟨0, by decide, rfl, rfl⟩, hk⟩, rfl⟩
theorem lo_1 {J0 : Int64} {I1 I12 : Int32} {R1 R3 R4 : Nat → Int32} {RJ2 : Nat → Int64} {fl : Int64} {S : List Int32} {P : List PE} (h0 : ¬ I1 = 0) (hA : RMf J0 I1 I12 R1 R3 R4 RJ2 fl S (aKeep fl S P)) : RMf J0 (I1 - 1) I12 R1 R3 R4 RJ2 fl S.tail (aLooseP fl S P) ∧ I1 - 1 = aLooseA S := by
  obtain ⟨h1, ⟨n, hn, rfl, rfl⟩, k, hk20, hk, e⟩ := hA
  cases n with
  | zero => exact absurd rfl h0
  | succ n =>
    rw [nI_s1]
    refine ⟨⟨h1, ⟨n, by omega, rfl, rfl⟩, k, hk20, hk, e⟩, ?_⟩
    show nI n = nI (eL R1 n).length
    rw [eL_len]
theorem any_of {R1 : Nat → Int32} {S : List Int32} {ns i : Nat} {p : Int32 → Bool} (hS : S = eL R1 ns) (hi : i < ns) (hn : ns ≤ 20) (h : p (R1 (nI i).toNatClampNeg) = true) : S.any p = true := by
  rw [cl20 (by omega)] at h
  rw [hS]
  exact any_t h ns hi
theorem all_s {R1 : Nat → Int32} {i : Nat} {p : Int32 → Bool} (hi : i ≤ 20) (hp : ∀ j, j < i → p (R1 j) = false) (h : p (R1 (nI i).toNatClampNeg) = false) : ∀ j, j < i + 1 → p (R1 j) = false := by
  rw [cl20 hi] at h
  intro j hj
  by_cases e : j = i
  · rw [e]; exact h
  · exact hp j (by omega)
theorem any_no {R1 : Nat → Int32} {S : List Int32} {ns i : Nat} {p : Int32 → Bool} (hS : S = eL R1 ns) (hi : i = ns) (hp : ∀ j, j < i → p (R1 j) = false) : S.any p = false := by
  rw [hS]
  exact any_f ns (fun j hj => hp j (by omega))
theorem find_eL {f : Nat → Int32} {x : Int32} : ∀ n, n ≤ 20 → findS (eL f n) x = if m_within x 0 (nI n - 1) then some (f x.toNatClampNeg) else none
  | 0, _ => by
    have h : m_within x 0 (nI 0 - 1) = false := by
      cases q : m_within x 0 (nI 0 - 1) with
      | false => rfl
      | true =>
        rw [within_iff] at q
        have e0 : (0 : Int32).toInt = 0 := rfl
        have e1 : (nI 0 - 1).toInt = -1 := rfl
        omega
    rw [h]
    rfl
  | n + 1, hn => by
    show (if nI (eL f n).length = x then some (f n) else findS (eL f n) x) = _
    rw [eL_len, find_eL n (by omega), nI_s1]
    by_cases e : nI n = x
    · rw [if_pos e, ← e, cl20 (by omega)]
      have h : m_within (nI n) 0 (nI n) = true := by
        rw [within_iff, nI_int (by omega)]
        have e0 : (0 : Int32).toInt = 0 := rfl
        omega
      rw [h]
      rfl
    · rw [if_neg e]
      have h : m_within x 0 (nI n - 1) = m_within x 0 (nI n) := by
        have a1 : (nI n).toInt = n := nI_int (by omega)
        have a2 : (nI n - 1).toInt = (n : Int) - 1 := by
          rw [sub1_int (n := 20) (vp_in_nI (by omega) (by decide)) (by decide), a1]
        have a3 : x.toInt ≠ n := fun z => e (Int32.toInt_inj.mp (by rw [a1, z]))
        rw [Bool.eq_iff_iff, within_iff, within_iff, a1, a2]
        omega
      rw [h]
theorem as_eL {f : Nat → Int32} {x I1 : Int32} {S : List Int32} {n : Nat} (hn : n ≤ 20) (hI : I1 = nI n) (hS : S = eL f n) : findS S x = if m_within x 0 (I1 - 1) then some (f x.toNatClampNeg) else none := by
  rw [hS, hI]
  exact find_eL n hn
theorem becM_tw {a : Int64} {b c : Int32} {d e f : Nat → Int32} {g : Nat → Int64} {fl t : Int64} {S : List Int32} {P : List PE} (hA : RMf a b c d e f g fl S P) (h : S.any (tw t) = true) : RMf a b c d e f g (aFl fl S t) S (aPs fl S P t) := by
  rw [(bec_tw (P := P) h).2.1, (bec_tw h).2.2]
  exact hA
theorem becM_kd {a : Int64} {b c : Int32} {d e f : Nat → Int32} {g : Nat → Int64} {fl t : Int64} {S : List Int32} {P : List PE} (hA : RMf a b c d e f g fl S P) (h : S.any (tw t) = false) (h2 : S.any (kd t) = true) : RMf a b c d e f g (aFl fl S t) S (aPs fl S P t) := by
  rw [(bec_kd (P := P) h h2).2.1, (bec_kd h h2).2.2]
  exact hA
theorem becM_ok {a : Int64} {b c : Int32} {d e f : Nat → Int32} {g : Nat → Int64} {fl t : Int64} {S : List Int32} {P : List PE} (hA : RMf a b c d e f g fl S (aKeep fl S P)) (h : S.any (tw t) = false) (h2 : S.any (kd t) = false) : RMf t b c d e f g (aFl fl S t) S (aPs fl S P t) := by
  rw [(bec_ok (fl := fl) (P := P) h h2).2.1, (bec_ok h h2).2.2]
  exact ⟨rfl, hA.2⟩
theorem row_in {fl t : Int64} {S : List Int32} {P : List PE} {y b : Int32} (h1 : m_within y 0 7 = true) (h2 : m_within b 0 255 = true) (e : t = rowT fl y b) : aBecA S t = aRowA fl S y b ∧ aFl fl S t = aRowF fl S y b ∧ aPs fl S P t = aRowP fl S P y b := by
  have q : rOk y b = true := by rw [rOk, h1, h2]; rfl
  subst e
  refine ⟨?_, ?_, ?_⟩
  · rw [aRowA, q]; rfl
  · rw [aRowF, q]; rfl
  · rw [aRowP, q]; rfl
theorem row_out {fl : Int64} {S : List Int32} {P : List PE} {y b : Int32} (q : rOk y b = false) : (-100001 : Int32) = aRowA fl S y b ∧ aRowF fl S y b = fl ∧ aRowP fl S P y b = P := by
  refine ⟨?_, ?_, ?_⟩
  · rw [aRowA, q]; rfl
  · rw [aRowF, q]; rfl
  · rw [aRowP, q]; rfl
theorem rowM_in {a : Int64} {b' c : Int32} {d e f : Nat → Int32} {g : Nat → Int64} {fl t : Int64} {S : List Int32} {P : List PE} {y b : Int32} (h1 : m_within y 0 7 = true) (h2 : m_within b 0 255 = true) (et : t = rowT fl y b) (hA : RMf a b' c d e f g (aFl fl S t) S (aPs fl S P t)) : RMf a b' c d e f g (aRowF fl S y b) S (aRowP fl S P y b) := by
  rw [← (row_in (S := S) (P := P) h1 h2 et).2.1, ← (row_in h1 h2 et).2.2]
  exact hA
theorem rowM_out {a : Int64} {b' c : Int32} {d e f : Nat → Int32} {g : Nat → Int64} {fl : Int64} {S : List Int32} {P : List PE} {y b : Int32} (q : rOk y b = false) (hA : RMf a b' c d e f g fl S P) : RMf a b' c d e f g (aRowF fl S y b) S (aRowP fl S P y b) := by
  rw [(row_out (S := S) (P := P) q).2.1, (row_out q).2.2]
  exact hA
/-! a stone: why not -/
section SW
variable {fl : Int64} {S : List Int32} {P : List PE} {k f c : Int32} {b : Bool}
theorem sw1 (h : sGood k f c = false) : sWhy fl S k f b c = (-100001) := by rw [sWhy, h]; rfl
theorem sw2 (h : sGood k f c = true) (h2 : m_place f b = 0 ∨ ¬ m_place f b &&& (fl ^^^ (-1)) = 0) : sWhy fl S k f b c = (-100003) := by
  rw [sWhy, h, if_pos rfl, if_pos h2]
theorem sw_n2 (hp : ¬ m_place f b = 0) (hf : m_place f b &&& (fl ^^^ (-1)) = 0) : ¬ (m_place f b = 0 ∨ ¬ m_place f b &&& (fl ^^^ (-1)) = 0) := fun z => z.elim hp (fun q => q hf)
theorem sw3 (h : sGood k f c = true) (hp : ¬ m_place f b = 0) (hf : m_place f b &&& (fl ^^^ (-1)) = 0) (h3 : (k = 1 ∨ k = 2) ∧ S.any (gl (m_place f b)) = true) : sWhy fl S k f b c = (-100007) := by
  rw [sWhy, h, if_pos rfl, if_neg (sw_n2 hp hf), if_pos h3]
theorem sw4 (h : sGood k f c = true) (hp : ¬ m_place f b = 0) (hf : m_place f b &&& (fl ^^^ (-1)) = 0) (h3 : ¬ ((k = 1 ∨ k = 2) ∧ S.any (gl (m_place f b)) = true)) (h4 : k = 3 ∧ m_edge fl f b = false) : sWhy fl S k f b c = (-100004) := by
  rw [sWhy, h, if_pos rfl, if_neg (sw_n2 hp hf), if_neg h3, if_pos h4]
theorem sw5 (h : sGood k f c = true) (hp : ¬ m_place f b = 0) (hf : m_place f b &&& (fl ^^^ (-1)) = 0) (h3 : ¬ ((k = 1 ∨ k = 2) ∧ S.any (gl (m_place f b)) = true)) (h4 : ¬ (k = 3 ∧ m_edge fl f b = false)) (h5 : S.length = 20) : sWhy fl S k f b c = (-100005) := by
  rw [sWhy, h, if_pos rfl, if_neg (sw_n2 hp hf), if_neg h3, if_neg h4, if_pos h5]
theorem sw6 (h : sGood k f c = true) (hp : ¬ m_place f b = 0) (hf : m_place f b &&& (fl ^^^ (-1)) = 0) (h3 : ¬ ((k = 1 ∨ k = 2) ∧ S.any (gl (m_place f b)) = true)) (h4 : ¬ (k = 3 ∧ m_edge fl f b = false)) (h5 : ¬ S.length = 20) : sWhy fl S k f b c = 0 := by
  rw [sWhy, h, if_pos rfl, if_neg (sw_n2 hp hf), if_neg h3, if_neg h4, if_neg h5]
theorem sto_no {w : Int32} (h : sWhy fl S k f b c = w) (hw : ¬ w = 0) : w = aStoA fl S k f b c ∧ aStoS fl S k f b c = S ∧ aStoP fl S P k f b c = P := by
  subst h
  exact ⟨(if_neg hw).symm, if_neg hw, if_neg hw⟩
theorem sto_ok (h : sWhy fl S k f b c = 0) : nI S.length = aStoA fl S k f b c ∧ aStoS fl S k f b c = sCode k f b c :: S ∧ aStoP fl S P k f b c = aKeep fl S P := ⟨(if_pos h).symm, if_pos h, if_pos h⟩
end SW
theorem stoM_no {a' : Int64} {b' c' : Int32} {d e g' : Nat → Int32} {g : Nat → Int64} {fl : Int64} {S : List Int32} {P : List PE} {k f c w : Int32} {b : Bool} (h : sWhy fl S k f b c = w) (hw : ¬ w = 0) (hA : RMf a' b' c' d e g' g fl S P) : RMf a' b' c' d e g' g fl (aStoS fl S k f b c) (aStoP fl S P k f b c) := by
  rw [(sto_no (P := P) h hw).2.1, (sto_no h hw).2.2]
  exact hA
theorem stoM_ok {J0 : Int64} {I1 I12 : Int32} {R1 R3 R4 : Nat → Int32} {RJ2 : Nat → Int64} {fl : Int64} {S : List Int32} {P : List PE} {k f c x : Int32} {b : Bool} (h : sWhy fl S k f b c = 0) (hx : x = sCode k f b c) (h20 : ¬ I1 = 20) (hA : RMf J0 I1 I12 R1 R3 R4 RJ2 fl S (aKeep fl S P)) : RMf J0 (I1 + 1) I12 (upd R1 I1.toNatClampNeg x) R3 R4 RJ2 fl (aStoS fl S k f b c) (aStoP fl S P k f b c) ∧ I1 + 1 - 1 = aStoA fl S k f b c := by
  rw [(sto_ok (P := P) h).2.1, (sto_ok h).2.2, ← (sto_ok (P := P) h).1, ← hx]
  obtain ⟨h1, ⟨n, hn, rfl, rfl⟩, hk⟩ := hA
  have hn2 : n < 20 := by
    rcases Nat.lt_or_ge n 20 with z | z
    · exact z
    · exact absurd (by rw [show n = 20 by omega]; rfl) h20
  rw [eL_len, nI_1, nI_s1, cl20 hn]
  refine ⟨⟨h1, ⟨n + 1, hn2, rfl, ?_⟩, hk⟩, rfl⟩
  show x :: eL R1 n = upd R1 n x n :: eL (upd R1 n x) n
  rw [pk_us, eL_congr n (fun i hi => pk_un (by omega))]
theorem nt1 {S : List Int32} {R1 : Nat → Int32} {p : Int64} {k v : Int32} {ns i : Nat} (hg : ¬ v = 0 ↔ (k = 1 ∨ k = 2)) (hS : S = eL R1 ns) (hi : i = ns) (hN : ¬ v = 0 → ∀ j, j < i → gl p (R1 j) = false) : ¬ ((k = 1 ∨ k = 2) ∧ S.any (gl p) = true) := by
  rintro ⟨h1, h2⟩
  rw [any_no hS hi (hN (hg.mpr h1))] at h2
  exact absurd h2 (by decide)
theorem nt2 {S : List Int32} {p : Int64} {k v : Int32} (hg : ¬ v = 0 ↔ (k = 1 ∨ k = 2)) (hv : v = 0) : ¬ ((k = 1 ∨ k = 2) ∧ S.any (gl p) = true) := fun z => hg.mpr z.1 hv
theorem len20 {S : List Int32} {R1 : Nat → Int32} {I1 : Int32} {n : Nat} (hn : n ≤ 20) (hI : I1 = nI n) (hS : S = eL R1 n) (h : I1 = 20) : S.length = 20 := by
  rw [hS, eL_len]
  exact (nI_eq (b := 20) (by omega) (by decide)).mp (hI.symm.trans h)
theorem len20n {S : List Int32} {R1 : Nat → Int32} {I1 : Int32} {n : Nat} (hI : I1 = nI n) (hS : S = eL R1 n) (h : ¬ I1 = 20) : ¬ S.length = 20 := by
  rw [hS, eL_len]
  intro z
  exact h (by rw [hI, z]; rfl)
/-! a stone as one of a kind -/
theorem as_1 {S : List Int32} {x k c : Int32} {w : Bool} (h : findS S x = if w then some c else none) (hw : w = false) : (-100001 : Int32) = aAs S x k := by
  rw [aAs, h, hw]; rfl
theorem as_2 {S : List Int32} {x k c : Int32} {w : Bool} (h : findS S x = if w then some c else none) (hw : w = true) (hk : m_within k 0 3 = false) : (-100001 : Int32) = aAs S x k := by
  rw [aAs, h, hw]
  show _ = if m_within k 0 3 then _ else _
  rw [hk]; rfl
theorem as_3 {S : List Int32} {x k c : Int32} {w : Bool} (h : findS S x = if w then some c else none) (hw : w = true) (hk : m_within k 0 3 = true) (hu : g_under (sK c) k = true) : x = aAs S x k := by
  rw [aAs, h, hw]
  show _ = if m_within k 0 3 then (if g_under (sK c) k then x else _) else _
  rw [hk, hu]; rfl
theorem as_4 {S : List Int32} {x k c : Int32} {w : Bool} (h : findS S x = if w then some c else none) (hw : w = true) (hk : m_within k 0 3 = true) (hu : g_under (sK c) k = false) : (-100004 : Int32) = aAs S x k := by
  rw [aAs, h, hw]
  show _ = if m_within k 0 3 then (if g_under (sK c) k then x else _) else _
  rw [hk, hu]; rfl
theorem und_t1 {k ab : Int32} (h : ab = 0) : g_under k ab = true := by rw [g_under, decide_eq_true h]; rfl
theorem und_t2 {k ab : Int32} (h : k = ab) : g_under k ab = true := by rw [g_under, decide_eq_true h, Bool.true_or, Bool.or_true]
theorem und_t3 {k ab : Int32} (h : ab = 1) (h2 : k = 2) : g_under k ab = true := by rw [g_under, decide_eq_true h, decide_eq_true h2, Bool.true_and, Bool.or_true, Bool.or_true]
theorem und_f1 {k ab : Int32} (h0 : ¬ ab = 0) (h1 : ¬ k = ab) (h : ¬ ab = 1) : g_under k ab = false := by rw [g_under, decide_eq_false h0, decide_eq_false h1, decide_eq_false h]; rfl
theorem und_f2 {k ab : Int32} (h0 : ¬ ab = 0) (h1 : ¬ k = ab) (h : ¬ k = 2) : g_under k ab = false := by rw [g_under, decide_eq_false h0, decide_eq_false h1, decide_eq_false h, Bool.and_false]; rfl
theorem und_s {g R4 : Nat → Int32} {x : Int32} {s : Nat} (hs : s < 20) (h : ∀ i, i < s → g i = R4 ((20 : Int32) * x + nI i).toNatClampNeg) : ∀ i, i < s + 1 → upd g (nI s).toNatClampNeg (R4 ((20 : Int32) * x + nI s).toNatClampNeg) i = R4 ((20 : Int32) * x + nI i).toNatClampNeg := by
  rw [cl20 (by omega)]
  intro i hi
  by_cases e : i = s
  · rw [e, pk_us]
  · rw [pk_un e]
    exact h i (by omega)
theorem sgm_1 {k f c : Int32} (h : m_within k 0 3 = false) : sGood k f c = false := by rw [sGood, h]; rfl
theorem sgm_2 {k f c : Int32} (h : m_within f 0 63 = false) : sGood k f c = false := by rw [sGood, h, Bool.false_and, Bool.and_false]
theorem sgm_3 {k f c : Int32} (h2 : k = 2) (h : m_within c 1 99 = false) : sGood k f c = false := by rw [sGood, if_pos h2, h, Bool.and_false, Bool.and_false]
theorem sgm_4 {k f c : Int32} (h2 : ¬ k = 2) (h : ¬ c = 0) : sGood k f c = false := by rw [sGood, if_neg h2, decide_eq_false h, Bool.and_false, Bool.and_false]
theorem sgm_t2 {k f c : Int32} (h0 : m_within k 0 3 = true) (h1 : m_within f 0 63 = true) (h2 : k = 2) (h : m_within c 1 99 = true) : sGood k f c = true := by rw [sGood, if_pos h2, h0, h1, h]; rfl
theorem sgm_t0 {k f c : Int32} (h0 : m_within k 0 3 = true) (h1 : m_within f 0 63 = true) (h2 : ¬ k = 2) (h : c = 0) : sGood k f c = true := by rw [sGood, if_neg h2, h0, h1, decide_eq_true h]; rfl
