/-! ===== sheets: both sides ===== -/
theorem bd_t {p : Prop} [Decidable p] (h : p) : (1 : Int32) = bI (decide p) := by rw [decide_eq_true h]; rfl
theorem bd_f {p : Prop} [Decidable p] (h : ¬ p) : (0 : Int32) = bI (decide p) := by rw [decide_eq_false h]; rfl
def g_rng (f n z : Int32) : Bool := !decide (f < 0) && (!decide (n < 0) && (!decide (z < n) && !decide (z - n < f)))
theorem rn_t {f n z : Int32} (h1 : ¬ f < 0) (h2 : ¬ n < 0) (h3 : ¬ z < n) (h4 : ¬ z - n < f) : (1 : Int32) = bI (g_rng f n z) := by
  rw [g_rng, decide_eq_false h1, decide_eq_false h2, decide_eq_false h3, decide_eq_false h4]; rfl
theorem rn_f {f n z : Int32} (h : f < 0 ∨ n < 0 ∨ z < n ∨ z - n < f) : (0 : Int32) = bI (g_rng f n z) := by
  have e : g_rng f n z = false := by
    unfold g_rng
    rcases h with h | h | h | h <;> rw [decide_eq_true h] <;> simp
  rw [e]; rfl
theorem rng_iff {f n z : Int32} (hz : vp_in z 17) : g_rng f n z = true ↔ 0 ≤ f.toInt ∧ 0 ≤ n.toInt ∧ f.toInt + n.toInt ≤ z.toInt := by
  have hz1 := vp_in_iff.mp hz
  have h1 := i32_rng f
  have h2 := i32_rng n
  have e0 : (0 : Int32).toInt = 0 := rfl
  unfold g_rng
  rw [Bool.and_eq_true, Bool.and_eq_true, Bool.and_eq_true, Bool.not_eq_true', Bool.not_eq_true', Bool.not_eq_true', Bool.not_eq_true', decide_eq_false_iff_not, decide_eq_false_iff_not, decide_eq_false_iff_not, decide_eq_false_iff_not, Int32.lt_iff_toInt_lt, Int32.lt_iff_toInt_lt, Int32.lt_iff_toInt_lt, Int32.lt_iff_toInt_lt, e0]
  by_cases q : n.toInt < 0 ∨ z.toInt < n.toInt
  · constructor
    · rintro ⟨a, b, c, d⟩
      omega
    · rintro ⟨a, b, c⟩
      omega
  · rw [Int32.toInt_sub, Int.bmod_eq_of_le (by omega) (by omega)]
    omega
theorem rng1 {f z : Int32} (hz : vp_in z 17) : g_rng f 1 z = m_within f 0 (z - 1) := by
  rw [Bool.eq_iff_iff, rng_iff hz, within_iff, sub1_int (n := 16) hz (by decide)]
  have e0 : (0 : Int32).toInt = 0 := rfl
  have e1 : (1 : Int32).toInt = 1 := rfl
  omega
theorem g255 : ∀ i : Fin 32, (255#32).getLsbD i.val = decide (i.val < 8) := by decide
theorem se8 (v : Int32) : ((v <<< ((32 - 8 : Int32) &&& 31)) >>> ((32 - 8 : Int32) &&& 31)) &&& 255 = v &&& 255 := by
  apply Int32.toBitVec_inj.mp
  apply BitVec.eq_of_getLsbD_eq
  intro i hi
  show (((v.toBitVec <<< (24 : Nat)).sshiftRight 24) &&& 255#32).getLsbD i = (v.toBitVec &&& 255#32).getLsbD i
  rw [BitVec.getLsbD_and, BitVec.getLsbD_and, g255 ⟨i, hi⟩]
  by_cases h : i < 8
  · rw [BitVec.getLsbD_sshiftRight]
    simp [BitVec.getLsbD_shiftLeft, show 24 + i < 32 by omega, show ¬ 32 ≤ i by omega, show ¬ 24 + i < 24 by omega, hi, h]
  · rw [decide_eq_false h, Bool.and_false, Bool.and_false]
theorem se16 (v : Int32) : ((v <<< ((32 - 16 : Int32) &&& 31)) >>> ((32 - 16 : Int32) &&& 31)) &&& 255 = v &&& 255 := by
  apply Int32.toBitVec_inj.mp
  apply BitVec.eq_of_getLsbD_eq
  intro i hi
  show (((v.toBitVec <<< (16 : Nat)).sshiftRight 16) &&& 255#32).getLsbD i = (v.toBitVec &&& 255#32).getLsbD i
  rw [BitVec.getLsbD_and, BitVec.getLsbD_and, g255 ⟨i, hi⟩]
  by_cases h : i < 8
  · rw [BitVec.getLsbD_sshiftRight]
    simp [BitVec.getLsbD_shiftLeft, show 16 + i < 32 by omega, show ¬ 32 ≤ i by omega, show ¬ 16 + i < 16 by omega, hi, h]
  · rw [decide_eq_false h, Bool.and_false, Bool.and_false]
theorem se32 (v : Int32) : ((v <<< ((32 - 32 : Int32) &&& 31)) >>> ((32 - 32 : Int32) &&& 31)) &&& 255 = v &&& 255 := by
  apply Int32.toBitVec_inj.mp
  apply BitVec.eq_of_getLsbD_eq
  intro i hi
  show (((v.toBitVec <<< (0 : Nat)).sshiftRight 0) &&& 255#32).getLsbD i = (v.toBitVec &&& 255#32).getLsbD i
  rw [BitVec.getLsbD_and, BitVec.getLsbD_and, BitVec.getLsbD_sshiftRight]
  simp [BitVec.getLsbD_shiftLeft, hi, show ¬ 32 ≤ i by omega]
theorem se_all {b : Int32} (hb : bOk b) (h0 : ¬ b = 0) (v : Int32) : ((v <<< ((32 - b) &&& 31)) >>> ((32 - b) &&& 31)) &&& 255 = v &&& 255 := by
  rcases hb with rfl | rfl | rfl | rfl
  · exact absurd rfl h0
  · exact se8 v
  · exact se16 v
  · exact se32 v
theorem cm_all {b : Int32} (hb : bOk b) (h0 : ¬ b = 0) (h32 : ¬ b = 32) (v : Int32) : (v &&& (((1 : Int32) <<< (b &&& 31)) - 1)) &&& 255 = v &&& 255 := by
  rcases hb with rfl | rfl | rfl | rfl
  · exact absurd rfl h0
  · rw [Int32.and_assoc]; rfl
  · rw [Int32.and_assoc]; rfl
  · exact absurd rfl h32
/-! what an act finds -/
section PW2
variable {B Z : Nat → Int32} {V : Nat → Nat → Int32} {q i v : Int32}
theorem pw1 (h : m_within q 0 3 = false) : (-100001 : Int32) = pWhy B Z q i := by rw [pWhy, h]; rfl
theorem pw2 (h : m_within q 0 3 = true) (h2 : B q.toNatClampNeg = 0) : (-100002 : Int32) = pWhy B Z q i := by rw [pWhy, h, if_pos rfl, if_pos h2]
theorem pw3 (h : m_within q 0 3 = true) (h2 : ¬ B q.toNatClampNeg = 0) (h3 : m_within i 0 (Z q.toNatClampNeg - 1) = false) : (-100001 : Int32) = pWhy B Z q i := by rw [pWhy, h, if_pos rfl, if_neg h2, h3]; rfl
theorem pw4 (h : m_within q 0 3 = true) (h2 : ¬ B q.toNatClampNeg = 0) (h3 : m_within i 0 (Z q.toNatClampNeg - 1) = true) : (0 : Int32) = pWhy B Z q i := by rw [pWhy, h, if_pos rfl, if_neg h2, h3]; rfl
theorem pv_no {w : Int32} (h : w = pWhy B Z q i) (hw : ¬ w = 0) : aPutV B Z V q i v = V := if_neg (fun z => hw (h.trans z))
theorem pv_ok (h : (0 : Int32) = pWhy B Z q i) : aPutV B Z V q i v = va_up V q.toNatClampNeg (va_up (V q.toNatClampNeg) i.toNatClampNeg (v &&& 255)) := if_pos h.symm
theorem lw1 (h : m_within q 0 3 = false) : plW B Z q = (-100001) := by rw [plW, h]; rfl
theorem lw2 (h : m_within q 0 3 = true) (h2 : B q.toNatClampNeg = 0) : plW B Z q = (-100002) := by rw [plW, h, if_pos rfl, if_pos h2]
theorem lw3 (h : m_within q 0 3 = true) (h2 : ¬ B q.toNatClampNeg = 0) (h3 : ¬ Z q.toNatClampNeg ≤ 8) : plW B Z q = (-100003) := by rw [plW, h, if_pos rfl, if_neg h2, if_pos (i32_lt h3)]
theorem lw4 (h : m_within q 0 3 = true) (h2 : ¬ B q.toNatClampNeg = 0) (h3 : Z q.toNatClampNeg ≤ 8) : plW B Z q = 0 := by rw [plW, h, if_pos rfl, if_neg h2, if_neg (i32_nlt h3)]
theorem pl_out {fl : Int64} {S : List Int32} {P : List PE} {w : Int32} (h : plW B Z q = w) (hw : ¬ w = 0) : w = aPlA B Z V S q ∧ aPlF B Z V fl S q = fl ∧ aPlP B Z V fl S P q = P := by
  subst h
  exact ⟨(if_neg hw).symm, if_neg hw, if_neg hw⟩
theorem pl_in {fl t : Int64} {S : List Int32} {P : List PE} (h : plW B Z q = 0) (e : t = plF Z V q) : aBecA S t = aPlA B Z V S q ∧ aFl fl S t = aPlF B Z V fl S q ∧ aPs fl S P t = aPlP B Z V fl S P q := by
  subst e
  exact ⟨(if_pos h).symm, (if_pos h).symm, (if_pos h).symm⟩
theorem plM_out {a : Int64} {b' c : Int32} {d e f : Nat → Int32} {g : Nat → Int64} {fl : Int64} {S : List Int32} {P : List PE} {w : Int32} (h : plW B Z q = w) (hw : ¬ w = 0) (hA : RMf a b' c d e f g fl S P) : RMf a b' c d e f g (aPlF B Z V fl S q) S (aPlP B Z V fl S P q) := by
  rw [(pl_out (V := V) (S := S) (P := P) h hw).2.1, (pl_out h hw).2.2]
  exact hA
theorem plM_in {a : Int64} {b' c : Int32} {d e f : Nat → Int32} {g : Nat → Int64} {fl t : Int64} {S : List Int32} {P : List PE} (h : plW B Z q = 0) (et : t = plF Z V q) (hA : RMf a b' c d e f g (aFl fl S t) S (aPs fl S P t)) : RMf a b' c d e f g (aPlF B Z V fl S q) S (aPlP B Z V fl S P q) := by
  rw [← (pl_in (S := S) (P := P) h et).2.1, ← (pl_in h et).2.2]
  exact hA
theorem plC_out {Y : va_W} {a : Int64} {o : Option Nat} {i' : Int32} {r : Nat → Option Nat} {fl : Int64} {S : List Int32} {P : List PE} {w : Int32} (h : plW B Z q = w) (hw : ¬ w = 0) (hA : RCf Y a o i' r fl S P) : RCf Y a o i' r (aPlF B Z V fl S q) S (aPlP B Z V fl S P q) := by
  rw [(pl_out (V := V) (S := S) (P := P) h hw).2.1, (pl_out h hw).2.2]
  exact hA
theorem plC_in {Y : va_W} {a : Int64} {o : Option Nat} {i' : Int32} {r : Nat → Option Nat} {fl t : Int64} {S : List Int32} {P : List PE} (h : plW B Z q = 0) (et : t = plF Z V q) (hA : RCf Y a o i' r (aFl fl S t) S (aPs fl S P t)) : RCf Y a o i' r (aPlF B Z V fl S q) S (aPlP B Z V fl S P q) := by
  rw [← (pl_in (S := S) (P := P) h et).2.1, ← (pl_in h et).2.2]
  exact hA
end PW2
section CW2
variable {B Z : Nat → Int32} {V : Nat → Nat → Int32} {s f t o n : Int32}
theorem cw1 (h : (m_within s 0 3 && m_within t 0 3) = false) : cWhy B Z s f t o n = (-100001) := by rw [cWhy, h]; rfl
theorem cw2 (h : m_within s 0 3 = true) (h' : m_within t 0 3 = true) (h2 : B s.toNatClampNeg = 0 ∨ B t.toNatClampNeg = 0) : cWhy B Z s f t o n = (-100002) := by rw [cWhy, h, h', Bool.true_and, if_pos rfl, if_pos h2]
theorem cw3 (h : m_within s 0 3 = true) (h' : m_within t 0 3 = true) (h2 : ¬ B s.toNatClampNeg = 0) (h2' : ¬ B t.toNatClampNeg = 0) (h3 : ¬ B s.toNatClampNeg = B t.toNatClampNeg) : cWhy B Z s f t o n = (-100004) := by rw [cWhy, h, h', Bool.true_and, if_pos rfl, if_neg (fun z => z.elim h2 h2'), if_pos h3]
theorem cw4 (h : m_within s 0 3 = true) (h' : m_within t 0 3 = true) (h2 : ¬ B s.toNatClampNeg = 0) (h2' : ¬ B t.toNatClampNeg = 0) (h3 : B s.toNatClampNeg = B t.toNatClampNeg) (h4 : cOkc Z s f t o n = false) : cWhy B Z s f t o n = (-100001) := by rw [cWhy, h, h', Bool.true_and, if_pos rfl, if_neg (fun z => z.elim h2 h2'), if_neg (fun z => z h3), h4]; rfl
theorem cw5 (h : m_within s 0 3 = true) (h' : m_within t 0 3 = true) (h2 : ¬ B s.toNatClampNeg = 0) (h2' : ¬ B t.toNatClampNeg = 0) (h3 : B s.toNatClampNeg = B t.toNatClampNeg) (h4 : cOkc Z s f t o n = true) : cWhy B Z s f t o n = 0 := by rw [cWhy, h, h', Bool.true_and, if_pos rfl, if_neg (fun z => z.elim h2 h2'), if_neg (fun z => z h3), h4]; rfl
theorem cp_no {w : Int32} (h : cWhy B Z s f t o n = w) (hw : ¬ w = 0) : w = aCpA B Z s f t o n ∧ aCpV B Z V s f t o n = V := by
  subst h
  exact ⟨(if_neg hw).symm, if_neg hw⟩
theorem cp_yes (h : cWhy B Z s f t o n = 0) : n = aCpA B Z s f t o n ∧ aCpV B Z V s f t o n = va_up V t.toNatClampNeg (va_cpy (V s.toNatClampNeg) (V t.toNatClampNeg) f.toNatClampNeg o.toNatClampNeg n.toNatClampNeg) := ⟨(if_pos h).symm, if_pos h⟩
theorem okc_iff : cOkc Z s f t o n = true ↔ 0 ≤ f.toInt ∧ 0 ≤ o.toInt ∧ 0 ≤ n.toInt ∧ f.toInt + n.toInt ≤ (Z s.toNatClampNeg).toInt ∧ o.toInt + n.toInt ≤ (Z t.toNatClampNeg).toInt := decide_eq_true_iff
end CW2
theorem sOk_t {q b n : Int32} (h : m_within q 0 3 = true) (hb : bOk b) (h0 : 0 ≤ n) (h1 : n ≤ 16) : shOk q b n = true := by
  rw [shOk, h, bOk_t hb, decide_eq_false (i32_nlt h0), decide_eq_false (i32_nlt h1)]; rfl
theorem sOk_1 {q b n : Int32} (h : m_within q 0 3 = false) : shOk q b n = false := by rw [shOk, h]; rfl
theorem sOk_2 {q b n : Int32} (h : ¬ bOk b) : shOk q b n = false := by
  have e : (decide (b = 0) || decide (b = 8) || decide (b = 16) || decide (b = 32)) = false := by
    rw [decide_eq_false (fun z => h (Or.inl z)), decide_eq_false (fun z => h (Or.inr (Or.inl z))), decide_eq_false (fun z => h (Or.inr (Or.inr (Or.inl z)))), decide_eq_false (fun z => h (Or.inr (Or.inr (Or.inr z))))]; rfl
  rw [shOk, e, Bool.and_false]; rfl
theorem sOk_3 {q b n : Int32} (h : ¬ 0 ≤ n) : shOk q b n = false := by rw [shOk, decide_eq_true (i32_lt h), Bool.not_true, Bool.false_and, Bool.and_false]
theorem sOk_4 {q b n : Int32} (h : ¬ n ≤ 16) : shOk q b n = false := by rw [shOk, decide_eq_true (i32_lt h), Bool.not_true, Bool.and_false, Bool.and_false]
theorem nbOk {b : Int32} (h0 : ¬ b = 0) (h1 : ¬ b = 8) (h2 : ¬ b = 16) (h3 : ¬ b = 32) : ¬ bOk b := fun z => z.elim h0 (fun z => z.elim h1 (fun z => z.elim h2 h3))
theorem shB_no {B : Nat → Int32} {q b n : Int32} (h : shOk q b n = false) : aShB B q b n = B := by rw [aShB, h]; rfl
theorem shZ_no {Z : Nat → Int32} {q b n : Int32} (h : shOk q b n = false) : aShZ Z q b n = Z := by rw [aShZ, h]; rfl
theorem shV_no {V : Nat → Nat → Int32} {q b n : Int32} (h : shOk q b n = false) : aShV V q b n = V := by rw [aShV, h]; rfl
theorem shB_ok {B : Nat → Int32} {q b n : Int32} (h : shOk q b n = true) : aShB B q b n = va_up B q.toNatClampNeg b := by rw [aShB, h]; rfl
theorem shZ_ok {Z : Nat → Int32} {q b n : Int32} (h : shOk q b n = true) : aShZ Z q b n = va_up Z q.toNatClampNeg (if b = 0 then 0 else n) := by rw [aShZ, h]; rfl
theorem shV_ok {V : Nat → Nat → Int32} {q b n : Int32} (h : shOk q b n = true) : aShV V q b n = va_up V q.toNatClampNeg (fun _ => 0) := by rw [aShV, h]; rfl
theorem z17' {b n : Int32} (h0 : 0 ≤ n) (h1 : n ≤ 16) : vp_in (if b = 0 then 0 else n) 17 := by
  by_cases z : b = 0
  · rw [if_pos z]; unfold vp_in; decide
  · rw [if_neg z]; exact in17 h0 h1
/-! the reference's sheets -/
theorem RMs_no {R8 R9 R10 B Z : Nat → Int32} {V : Nat → Nat → Int32} {q b n : Int32} (h : shOk q b n = false) (hs : RMs R8 R9 R10 B Z V) : RMs R8 R9 R10 (aShB B q b n) (aShZ Z q b n) (aShV V q b n) := by
  rw [shB_no h, shZ_no h, shV_no h]; exact hs
/-- while a sheet is emptied: its numbers below i are -/
def shI (R10 g : Nat → Int32) (q i : Nat) : Prop := (∀ j, j < i → g (16 * q + j) = 0) ∧ ∀ p, (p < 16 * q ∨ 16 * q + 16 ≤ p) → g p = R10 p
theorem ix64 {q i : Nat} (hq : q < 4) (hi : i ≤ 16) : ((16 : Int32) * nI q + nI i).toNatClampNeg = 16 * q + i := by
  rw [show (16 : Int32) = nI 16 from rfl, pk_mul, nI_add, nI_clamp (by omega)]
theorem shI_0 {R10 : Nat → Int32} {q : Nat} : shI R10 R10 q 0 := ⟨fun j h => absurd h (Nat.not_lt_zero _), fun _ _ => rfl⟩
theorem shI_s {R10 g : Nat → Int32} {x : Int32} {i : Nat} (hx : vp_in x 4) (hi : i < 16) (h : shI R10 g x.toNatClampNeg i) : shI R10 (upd g ((16 : Int32) * x + nI i).toNatClampNeg 0) x.toNatClampNeg (i + 1) := by
  obtain ⟨q, hq, rfl⟩ := vp_in_of hx (by decide)
  rw [ix64 hq (by omega)]
  rw [cl20 (by omega)] at h ⊢
  refine ⟨fun j hj => ?_, fun p hp => ?_⟩
  · by_cases e : j = i
    · rw [e, pk_us]
    · rw [pk_un (by omega)]
      exact h.1 j (by omega)
  · rw [pk_un (by omega)]
    exact h.2 p hp
theorem RMs_sh {R8 R9 R10 g B Z : Nat → Int32} {V : Nat → Nat → Int32} {q b n : Int32} {i : Nat} (hi : i = 16) (hw : m_within q 0 3 = true) (hb : bOk b) (h0 : 0 ≤ n) (h1 : n ≤ 16) (hs : RMs R8 R9 R10 B Z V) (hg : shI R10 g q.toNatClampNeg i) {r8 r9 : Nat → Int32} (e8 : r8 = upd R8 q.toNatClampNeg b) (e9 : r9 = upd R9 q.toNatClampNeg (if b = 0 then 0 else n)) : RMs r8 r9 g (aShB B q b n) (aShZ Z q b n) (aShV V q b n) := by
  have ok := sOk_t hw hb h0 h1
  rw [shB_ok ok, shZ_ok ok, shV_ok ok, e8, e9]
  subst hi
  intro p hp
  by_cases e : p = q.toNatClampNeg
  · subst e
    rw [pk_us, pk_us, va_up_self, va_up_self, va_up_self]
    exact ⟨rfl, rfl, fun j hj => by rw [hg.1 j hj]; rfl, hb, z17' h0 h1⟩
  · rw [pk_un e, pk_un e, va_up_ne _ _ e, va_up_ne _ _ e, va_up_ne _ _ e]
    obtain ⟨a1, a2, a3, a4, a5⟩ := hs p hp
    exact ⟨a1, a2, fun j hj => by rw [hg.2 _ (by omega)]; exact a3 j hj, a4, a5⟩
theorem RMs_put {R8 R9 R10 B Z : Nat → Int32} {V : Nat → Nat → Int32} {q i v w : Int32} (hs : RMs R8 R9 R10 B Z V) (hq : m_within q 0 3 = true) (h : (0 : Int32) = pWhy B Z q i) (hi : vp_in i 16) (hw : w &&& 255 = v &&& 255) : RMs R8 R9 (upd R10 ((16 : Int32) * q + i).toNatClampNeg w) B Z (aPutV B Z V q i v) := by
  rw [pv_ok h]
  obtain ⟨q', hq', rfl⟩ := vp_in_of (within_in4 hq) (by decide)
  obtain ⟨i', hi', rfl⟩ := vp_in_of hi (by decide)
  rw [ix64 hq' (by omega), cl20 (by omega), cl20 (by omega)]
  intro p hp
  obtain ⟨a1, a2, a3, a4, a5⟩ := hs p hp
  refine ⟨a1, a2, fun j hj => ?_, a4, a5⟩
  by_cases e : p = q'
  · subst e
    rw [va_up_self]
    by_cases e2 : j = i'
    · subst e2
      rw [pk_us, va_up_self]
      exact hw
    · rw [pk_un (by omega), va_up_ne _ _ e2]
      exact a3 j hj
  · rw [pk_un (by omega), va_up_ne _ _ e]
    exact a3 j hj
theorem plT_congr {f g : Nat → Int32} : ∀ n, (∀ y, y < n → f y = g y) → plT f n = plT g n
  | 0, _ => rfl
  | n + 1, h => by
    show plT f n ||| _ = plT g n ||| _
    rw [plT_congr n (fun y hy => h y (Nat.lt_succ_of_lt hy)), h n (Nat.lt_succ_self n)]
theorem plM_eq {R8 R9 R10 B Z : Nat → Int32} {V : Nat → Nat → Int32} {q : Int32} {i : Nat} (hs : RMs R8 R9 R10 B Z V) (hq : m_within q 0 3 = true) (hi : i = (R9 q.toNatClampNeg).toNatClampNeg) : plT (fun y => R10 ((16 : Int32) * q + nI y).toNatClampNeg &&& 255) i = plF Z V q := by
  unfold plF
  have h4 := hs _ (in_lt (within_in4 hq))
  rw [← h4.2.1, ← hi]
  have hb : i < 17 := by
    rw [hi, h4.2.1]
    exact in_lt h4.2.2.2.2
  obtain ⟨q', hq', rfl⟩ := vp_in_of (within_in4 hq) (by decide)
  rw [cl20 (by omega)]
  exact plT_congr i (fun y hy => by rw [ix64 hq' (by omega)]; exact (hs q' hq').2.2.1 y (by omega))
theorem cz_ge {v : Int32} {k : Nat} (hz : vp_in v 17) (hk : k ≤ v.toNatClampNeg) (q : v ≤ nI k) : k = v.toNatClampNeg := by
  obtain ⟨n, hn, rfl⟩ := vp_in_of hz (by decide)
  rw [cl20 (by omega)] at hk ⊢
  have := (nI_leI (by omega) (by omega)).mp q
  omega
theorem RCs_v0 {kk : Nat} (hk : kk = 0) {b0 z0 : Int32} {v0 : Nat → Int32} {b1 z1 : Int32} {v1 : Nat → Int32} {b2 z2 : Int32} {v2 : Nat → Int32} {b3 z3 : Int32} {v3 : Nat → Int32} {B Z : Nat → Int32} {V : Nat → Nat → Int32} {v w : Nat → Int32} (hs : RCs b0 z0 v0 b1 z1 v1 b2 z2 v2 b3 z3 v3 B Z V) (h : ∀ i, i < 16 → v i &&& 255 = w i) : RCs b0 z0 v b1 z1 v1 b2 z2 v2 b3 z3 v3 B Z (va_up V kk w) := by
  subst hk
  exact ⟨⟨hs.1.1, hs.1.2.1, fun i hi => by rw [va_up_self]; exact h i hi, hs.1.2.2.2.1, hs.1.2.2.2.2⟩, ⟨hs.2.1.1, hs.2.1.2.1, fun i hi => by rw [va_up_ne _ _ (by decide)]; exact hs.2.1.2.2.1 i hi, hs.2.1.2.2.2.1, hs.2.1.2.2.2.2⟩, ⟨hs.2.2.1.1, hs.2.2.1.2.1, fun i hi => by rw [va_up_ne _ _ (by decide)]; exact hs.2.2.1.2.2.1 i hi, hs.2.2.1.2.2.2.1, hs.2.2.1.2.2.2.2⟩, ⟨hs.2.2.2.1, hs.2.2.2.2.1, fun i hi => by rw [va_up_ne _ _ (by decide)]; exact hs.2.2.2.2.2.1 i hi, hs.2.2.2.2.2.2.1, hs.2.2.2.2.2.2.2⟩⟩
theorem RCs_s0 {kk : Nat} (hk : kk = 0) {b0 z0 : Int32} {v0 : Nat → Int32} {b1 z1 : Int32} {v1 : Nat → Int32} {b2 z2 : Int32} {v2 : Nat → Int32} {b3 z3 : Int32} {v3 : Nat → Int32} {B Z : Nat → Int32} {V : Nat → Nat → Int32} {v : Nat → Int32} {b z : Int32} (hs : RCs b0 z0 v0 b1 z1 v1 b2 z2 v2 b3 z3 v3 B Z V) (hb : bOk b) (hz : vp_in z 17) (h : ∀ i, i < 16 → v i = 0) : RCs b z v b1 z1 v1 b2 z2 v2 b3 z3 v3 (va_up B kk b) (va_up Z kk z) (va_up V kk (fun _ => 0)) := by
  subst hk
  exact ⟨⟨(va_up_self _ _ _).symm, (va_up_self _ _ _).symm, fun i hi => by rw [va_up_self, h i hi]; rfl, by rw [va_up_self]; exact hb, by rw [va_up_self]; exact hz⟩, ⟨by rw [va_up_ne _ _ (by decide)]; exact hs.2.1.1, by rw [va_up_ne _ _ (by decide)]; exact hs.2.1.2.1, fun i hi => by rw [va_up_ne _ _ (by decide)]; exact hs.2.1.2.2.1 i hi, by rw [va_up_ne _ _ (by decide)]; exact hs.2.1.2.2.2.1, by rw [va_up_ne _ _ (by decide)]; exact hs.2.1.2.2.2.2⟩, ⟨by rw [va_up_ne _ _ (by decide)]; exact hs.2.2.1.1, by rw [va_up_ne _ _ (by decide)]; exact hs.2.2.1.2.1, fun i hi => by rw [va_up_ne _ _ (by decide)]; exact hs.2.2.1.2.2.1 i hi, by rw [va_up_ne _ _ (by decide)]; exact hs.2.2.1.2.2.2.1, by rw [va_up_ne _ _ (by decide)]; exact hs.2.2.1.2.2.2.2⟩, ⟨by rw [va_up_ne _ _ (by decide)]; exact hs.2.2.2.1, by rw [va_up_ne _ _ (by decide)]; exact hs.2.2.2.2.1, fun i hi => by rw [va_up_ne _ _ (by decide)]; exact hs.2.2.2.2.2.1 i hi, by rw [va_up_ne _ _ (by decide)]; exact hs.2.2.2.2.2.2.1, by rw [va_up_ne _ _ (by decide)]; exact hs.2.2.2.2.2.2.2⟩⟩
theorem RCs_v1 {kk : Nat} (hk : kk = 1) {b0 z0 : Int32} {v0 : Nat → Int32} {b1 z1 : Int32} {v1 : Nat → Int32} {b2 z2 : Int32} {v2 : Nat → Int32} {b3 z3 : Int32} {v3 : Nat → Int32} {B Z : Nat → Int32} {V : Nat → Nat → Int32} {v w : Nat → Int32} (hs : RCs b0 z0 v0 b1 z1 v1 b2 z2 v2 b3 z3 v3 B Z V) (h : ∀ i, i < 16 → v i &&& 255 = w i) : RCs b0 z0 v0 b1 z1 v b2 z2 v2 b3 z3 v3 B Z (va_up V kk w) := by
  subst hk
  exact ⟨⟨hs.1.1, hs.1.2.1, fun i hi => by rw [va_up_ne _ _ (by decide)]; exact hs.1.2.2.1 i hi, hs.1.2.2.2.1, hs.1.2.2.2.2⟩, ⟨hs.2.1.1, hs.2.1.2.1, fun i hi => by rw [va_up_self]; exact h i hi, hs.2.1.2.2.2.1, hs.2.1.2.2.2.2⟩, ⟨hs.2.2.1.1, hs.2.2.1.2.1, fun i hi => by rw [va_up_ne _ _ (by decide)]; exact hs.2.2.1.2.2.1 i hi, hs.2.2.1.2.2.2.1, hs.2.2.1.2.2.2.2⟩, ⟨hs.2.2.2.1, hs.2.2.2.2.1, fun i hi => by rw [va_up_ne _ _ (by decide)]; exact hs.2.2.2.2.2.1 i hi, hs.2.2.2.2.2.2.1, hs.2.2.2.2.2.2.2⟩⟩
theorem RCs_s1 {kk : Nat} (hk : kk = 1) {b0 z0 : Int32} {v0 : Nat → Int32} {b1 z1 : Int32} {v1 : Nat → Int32} {b2 z2 : Int32} {v2 : Nat → Int32} {b3 z3 : Int32} {v3 : Nat → Int32} {B Z : Nat → Int32} {V : Nat → Nat → Int32} {v : Nat → Int32} {b z : Int32} (hs : RCs b0 z0 v0 b1 z1 v1 b2 z2 v2 b3 z3 v3 B Z V) (hb : bOk b) (hz : vp_in z 17) (h : ∀ i, i < 16 → v i = 0) : RCs b0 z0 v0 b z v b2 z2 v2 b3 z3 v3 (va_up B kk b) (va_up Z kk z) (va_up V kk (fun _ => 0)) := by
  subst hk
  exact ⟨⟨by rw [va_up_ne _ _ (by decide)]; exact hs.1.1, by rw [va_up_ne _ _ (by decide)]; exact hs.1.2.1, fun i hi => by rw [va_up_ne _ _ (by decide)]; exact hs.1.2.2.1 i hi, by rw [va_up_ne _ _ (by decide)]; exact hs.1.2.2.2.1, by rw [va_up_ne _ _ (by decide)]; exact hs.1.2.2.2.2⟩, ⟨(va_up_self _ _ _).symm, (va_up_self _ _ _).symm, fun i hi => by rw [va_up_self, h i hi]; rfl, by rw [va_up_self]; exact hb, by rw [va_up_self]; exact hz⟩, ⟨by rw [va_up_ne _ _ (by decide)]; exact hs.2.2.1.1, by rw [va_up_ne _ _ (by decide)]; exact hs.2.2.1.2.1, fun i hi => by rw [va_up_ne _ _ (by decide)]; exact hs.2.2.1.2.2.1 i hi, by rw [va_up_ne _ _ (by decide)]; exact hs.2.2.1.2.2.2.1, by rw [va_up_ne _ _ (by decide)]; exact hs.2.2.1.2.2.2.2⟩, ⟨by rw [va_up_ne _ _ (by decide)]; exact hs.2.2.2.1, by rw [va_up_ne _ _ (by decide)]; exact hs.2.2.2.2.1, fun i hi => by rw [va_up_ne _ _ (by decide)]; exact hs.2.2.2.2.2.1 i hi, by rw [va_up_ne _ _ (by decide)]; exact hs.2.2.2.2.2.2.1, by rw [va_up_ne _ _ (by decide)]; exact hs.2.2.2.2.2.2.2⟩⟩
theorem RCs_v2 {kk : Nat} (hk : kk = 2) {b0 z0 : Int32} {v0 : Nat → Int32} {b1 z1 : Int32} {v1 : Nat → Int32} {b2 z2 : Int32} {v2 : Nat → Int32} {b3 z3 : Int32} {v3 : Nat → Int32} {B Z : Nat → Int32} {V : Nat → Nat → Int32} {v w : Nat → Int32} (hs : RCs b0 z0 v0 b1 z1 v1 b2 z2 v2 b3 z3 v3 B Z V) (h : ∀ i, i < 16 → v i &&& 255 = w i) : RCs b0 z0 v0 b1 z1 v1 b2 z2 v b3 z3 v3 B Z (va_up V kk w) := by
  subst hk
  exact ⟨⟨hs.1.1, hs.1.2.1, fun i hi => by rw [va_up_ne _ _ (by decide)]; exact hs.1.2.2.1 i hi, hs.1.2.2.2.1, hs.1.2.2.2.2⟩, ⟨hs.2.1.1, hs.2.1.2.1, fun i hi => by rw [va_up_ne _ _ (by decide)]; exact hs.2.1.2.2.1 i hi, hs.2.1.2.2.2.1, hs.2.1.2.2.2.2⟩, ⟨hs.2.2.1.1, hs.2.2.1.2.1, fun i hi => by rw [va_up_self]; exact h i hi, hs.2.2.1.2.2.2.1, hs.2.2.1.2.2.2.2⟩, ⟨hs.2.2.2.1, hs.2.2.2.2.1, fun i hi => by rw [va_up_ne _ _ (by decide)]; exact hs.2.2.2.2.2.1 i hi, hs.2.2.2.2.2.2.1, hs.2.2.2.2.2.2.2⟩⟩
theorem RCs_s2 {kk : Nat} (hk : kk = 2) {b0 z0 : Int32} {v0 : Nat → Int32} {b1 z1 : Int32} {v1 : Nat → Int32} {b2 z2 : Int32} {v2 : Nat → Int32} {b3 z3 : Int32} {v3 : Nat → Int32} {B Z : Nat → Int32} {V : Nat → Nat → Int32} {v : Nat → Int32} {b z : Int32} (hs : RCs b0 z0 v0 b1 z1 v1 b2 z2 v2 b3 z3 v3 B Z V) (hb : bOk b) (hz : vp_in z 17) (h : ∀ i, i < 16 → v i = 0) : RCs b0 z0 v0 b1 z1 v1 b z v b3 z3 v3 (va_up B kk b) (va_up Z kk z) (va_up V kk (fun _ => 0)) := by
  subst hk
  exact ⟨⟨by rw [va_up_ne _ _ (by decide)]; exact hs.1.1, by rw [va_up_ne _ _ (by decide)]; exact hs.1.2.1, fun i hi => by rw [va_up_ne _ _ (by decide)]; exact hs.1.2.2.1 i hi, by rw [va_up_ne _ _ (by decide)]; exact hs.1.2.2.2.1, by rw [va_up_ne _ _ (by decide)]; exact hs.1.2.2.2.2⟩, ⟨by rw [va_up_ne _ _ (by decide)]; exact hs.2.1.1, by rw [va_up_ne _ _ (by decide)]; exact hs.2.1.2.1, fun i hi => by rw [va_up_ne _ _ (by decide)]; exact hs.2.1.2.2.1 i hi, by rw [va_up_ne _ _ (by decide)]; exact hs.2.1.2.2.2.1, by rw [va_up_ne _ _ (by decide)]; exact hs.2.1.2.2.2.2⟩, ⟨(va_up_self _ _ _).symm, (va_up_self _ _ _).symm, fun i hi => by rw [va_up_self, h i hi]; rfl, by rw [va_up_self]; exact hb, by rw [va_up_self]; exact hz⟩, ⟨by rw [va_up_ne _ _ (by decide)]; exact hs.2.2.2.1, by rw [va_up_ne _ _ (by decide)]; exact hs.2.2.2.2.1, fun i hi => by rw [va_up_ne _ _ (by decide)]; exact hs.2.2.2.2.2.1 i hi, by rw [va_up_ne _ _ (by decide)]; exact hs.2.2.2.2.2.2.1, by rw [va_up_ne _ _ (by decide)]; exact hs.2.2.2.2.2.2.2⟩⟩
theorem RCs_v3 {kk : Nat} (hk : kk = 3) {b0 z0 : Int32} {v0 : Nat → Int32} {b1 z1 : Int32} {v1 : Nat → Int32} {b2 z2 : Int32} {v2 : Nat → Int32} {b3 z3 : Int32} {v3 : Nat → Int32} {B Z : Nat → Int32} {V : Nat → Nat → Int32} {v w : Nat → Int32} (hs : RCs b0 z0 v0 b1 z1 v1 b2 z2 v2 b3 z3 v3 B Z V) (h : ∀ i, i < 16 → v i &&& 255 = w i) : RCs b0 z0 v0 b1 z1 v1 b2 z2 v2 b3 z3 v B Z (va_up V kk w) := by
  subst hk
  exact ⟨⟨hs.1.1, hs.1.2.1, fun i hi => by rw [va_up_ne _ _ (by decide)]; exact hs.1.2.2.1 i hi, hs.1.2.2.2.1, hs.1.2.2.2.2⟩, ⟨hs.2.1.1, hs.2.1.2.1, fun i hi => by rw [va_up_ne _ _ (by decide)]; exact hs.2.1.2.2.1 i hi, hs.2.1.2.2.2.1, hs.2.1.2.2.2.2⟩, ⟨hs.2.2.1.1, hs.2.2.1.2.1, fun i hi => by rw [va_up_ne _ _ (by decide)]; exact hs.2.2.1.2.2.1 i hi, hs.2.2.1.2.2.2.1, hs.2.2.1.2.2.2.2⟩, ⟨hs.2.2.2.1, hs.2.2.2.2.1, fun i hi => by rw [va_up_self]; exact h i hi, hs.2.2.2.2.2.2.1, hs.2.2.2.2.2.2.2⟩⟩
theorem RCs_s3 {kk : Nat} (hk : kk = 3) {b0 z0 : Int32} {v0 : Nat → Int32} {b1 z1 : Int32} {v1 : Nat → Int32} {b2 z2 : Int32} {v2 : Nat → Int32} {b3 z3 : Int32} {v3 : Nat → Int32} {B Z : Nat → Int32} {V : Nat → Nat → Int32} {v : Nat → Int32} {b z : Int32} (hs : RCs b0 z0 v0 b1 z1 v1 b2 z2 v2 b3 z3 v3 B Z V) (hb : bOk b) (hz : vp_in z 17) (h : ∀ i, i < 16 → v i = 0) : RCs b0 z0 v0 b1 z1 v1 b2 z2 v2 b z v (va_up B kk b) (va_up Z kk z) (va_up V kk (fun _ => 0)) := by
  subst hk
  exact ⟨⟨by rw [va_up_ne _ _ (by decide)]; exact hs.1.1, by rw [va_up_ne _ _ (by decide)]; exact hs.1.2.1, fun i hi => by rw [va_up_ne _ _ (by decide)]; exact hs.1.2.2.1 i hi, by rw [va_up_ne _ _ (by decide)]; exact hs.1.2.2.2.1, by rw [va_up_ne _ _ (by decide)]; exact hs.1.2.2.2.2⟩, ⟨by rw [va_up_ne _ _ (by decide)]; exact hs.2.1.1, by rw [va_up_ne _ _ (by decide)]; exact hs.2.1.2.1, fun i hi => by rw [va_up_ne _ _ (by decide)]; exact hs.2.1.2.2.1 i hi, by rw [va_up_ne _ _ (by decide)]; exact hs.2.1.2.2.2.1, by rw [va_up_ne _ _ (by decide)]; exact hs.2.1.2.2.2.2⟩, ⟨by rw [va_up_ne _ _ (by decide)]; exact hs.2.2.1.1, by rw [va_up_ne _ _ (by decide)]; exact hs.2.2.1.2.1, fun i hi => by rw [va_up_ne _ _ (by decide)]; exact hs.2.2.1.2.2.1 i hi, by rw [va_up_ne _ _ (by decide)]; exact hs.2.2.1.2.2.2.1, by rw [va_up_ne _ _ (by decide)]; exact hs.2.2.1.2.2.2.2⟩, ⟨(va_up_self _ _ _).symm, (va_up_self _ _ _).symm, fun i hi => by rw [va_up_self, h i hi]; rfl, by rw [va_up_self]; exact hb, by rw [va_up_self]; exact hz⟩⟩
theorem RCs_no {b0 z0 : Int32} {v0 : Nat → Int32} {b1 z1 : Int32} {v1 : Nat → Int32} {b2 z2 : Int32} {v2 : Nat → Int32} {b3 z3 : Int32} {v3 : Nat → Int32} {B Z : Nat → Int32} {V : Nat → Nat → Int32} {q b n : Int32} (h : shOk q b n = false) (hs : RCs b0 z0 v0 b1 z1 v1 b2 z2 v2 b3 z3 v3 B Z V) : RCs b0 z0 v0 b1 z1 v1 b2 z2 v2 b3 z3 v3 (aShB B q b n) (aShZ Z q b n) (aShV V q b n) := by
  rw [shB_no h, shZ_no h, shV_no h]; exact hs
section RC1L
variable {B Z : Nat → Int32} {V : Nat → Nat → Int32} {q i v b z : Int32} {f : Nat → Int32} {j : Nat}
theorem pc2 (hq : m_within q 0 3 = true) (hj : q.toNatClampNeg = j) (h1 : RC1 b z f B Z V j) (h : decide (b = 0) = true) : (-100002 : Int32) = pWhy B Z q i := pw2 hq (by rw [hj, ← h1.1]; exact of_decide_eq_true h)
theorem nb0 (hj : q.toNatClampNeg = j) (h1 : RC1 b z f B Z V j) (h : decide (b = 0) = false) : ¬ B q.toNatClampNeg = 0 := by rw [hj, ← h1.1]; exact of_decide_eq_false h
theorem eb0 (hj : q.toNatClampNeg = j) (h1 : RC1 b z f B Z V j) (h : decide (b = 0) = true) : B q.toNatClampNeg = 0 := by rw [hj, ← h1.1]; exact of_decide_eq_true h
theorem zq (hj : q.toNatClampNeg = j) (h1 : RC1 b z f B Z V j) : Z q.toNatClampNeg = z := by rw [hj]; exact h1.2.1.symm
theorem bq (hj : q.toNatClampNeg = j) (h1 : RC1 b z f B Z V j) : B q.toNatClampNeg = b := by rw [hj]; exact h1.1.symm
theorem zin (h1 : RC1 b z f B Z V j) : vp_in z 17 := by rw [h1.2.1]; exact h1.2.2.2.2
theorem pc3 (hq : m_within q 0 3 = true) (hj : q.toNatClampNeg = j) (h1 : RC1 b z f B Z V j) (h : decide (b = 0) = false) (h3 : g_rng i 1 z = false) : (-100001 : Int32) = pWhy B Z q i := pw3 hq (nb0 hj h1 h) (by rw [zq hj h1, ← rng1 (zin h1)]; exact h3)
theorem pc4 (hq : m_within q 0 3 = true) (hj : q.toNatClampNeg = j) (h1 : RC1 b z f B Z V j) (h : decide (b = 0) = false) (h3 : g_rng i 1 z = true) : (0 : Int32) = pWhy B Z q i := pw4 hq (nb0 hj h1 h) (by rw [zq hj h1, ← rng1 (zin h1)]; exact h3)
theorem pc_in (h1 : RC1 b z f B Z V j) (h3 : g_rng i 1 z = true) : vp_in i 16 := by
  rw [rng1 (zin h1)] at h3
  exact sz_in (zin h1) h3
theorem pc_w (hj : q.toNatClampNeg = j) (h1 : RC1 b z f B Z V j) (hb : decide (b = 0) = false) (hi : vp_in i 16) {g : Nat → Int32} (hg : g = upd f i.toNatClampNeg (if b = 32 then v else v &&& (((1 : Int32) <<< (b &&& 31)) - 1))) : ∀ p, p < 16 → g p &&& 255 = va_up (V q.toNatClampNeg) i.toNatClampNeg (v &&& 255) p := by
  intro p hp
  rw [hg]
  by_cases e : p = i.toNatClampNeg
  · subst e
    rw [pk_us, va_up_self]
    by_cases z32 : b = 32
    · rw [if_pos z32]
    · rw [if_neg z32]
      exact cm_all (by rw [h1.1]; exact h1.2.2.2.1) (of_decide_eq_false hb) z32 v
  · rw [pk_un e, va_up_ne _ _ e, hj]
    exact h1.2.2.1 p hp
theorem lc2 (hq : m_within q 0 3 = true) (hj : q.toNatClampNeg = j) (h1 : RC1 b z f B Z V j) (h : decide (b = 0) = true) : plW B Z q = (-100002) := lw2 hq (eb0 hj h1 h)
theorem lc3 (hq : m_within q 0 3 = true) (hj : q.toNatClampNeg = j) (h1 : RC1 b z f B Z V j) (h : decide (b = 0) = false) (h3 : ¬ z ≤ 8) : plW B Z q = (-100003) := lw3 hq (nb0 hj h1 h) (by rw [zq hj h1]; exact h3)
theorem lc4 (hq : m_within q 0 3 = true) (hj : q.toNatClampNeg = j) (h1 : RC1 b z f B Z V j) (h : decide (b = 0) = false) (h3 : z ≤ 8) : plW B Z q = 0 := lw4 hq (nb0 hj h1 h) (by rw [zq hj h1]; exact h3)
def plN (z : Int32) : Nat := if z.toNatClampNeg < 8 then z.toNatClampNeg else 8
theorem plN_1 {z : Int32} {k : Nat} (hk : k ≤ z.toNatClampNeg) (h8 : k = 8) : k = plN z := by
  unfold plN
  by_cases e : z.toNatClampNeg < 8
  · omega
  · rw [if_neg e]; exact h8
theorem plN_2 {z : Int32} {k : Nat} (hz : vp_in z 17) (hk : k ≤ z.toNatClampNeg) (hk8 : k < 8) (h : z ≤ nI k) : k = plN z := by
  obtain ⟨n, hn, rfl⟩ := vp_in_of hz (by decide)
  rw [cl20 (by omega)] at hk
  have h2 := (nI_leI (by omega) (by omega)).mp h
  unfold plN
  rw [cl20 (by omega)]
  by_cases e : n < 8
  · rw [if_pos e]; omega
  · omega
theorem plC_eq (hj : q.toNatClampNeg = j) (h1 : RC1 b z f B Z V j) (h3 : z ≤ 8) : plT (fun y => f (nI y).toNatClampNeg &&& 255) (plN z) = plF Z V q := by
  unfold plF
  rw [hj, ← h1.2.1]
  obtain ⟨n, hn, rfl⟩ := vp_in_of (zin h1) (by decide)
  have h2 := (nI_leI (b := 8) (by omega) (by decide)).mp h3
  have e : plN (nI n) = n := by
    unfold plN
    rw [cl20 (by omega)]
    by_cases e : n < 8
    · rw [if_pos e]
    · rw [if_neg e]; omega
  rw [e, cl20 (by omega)]
  exact plT_congr n (fun y hy => by rw [cl20 (by omega)]; exact h1.2.2.1 y (by omega))
end RC1L
/-! copy -/
section CPY
variable {B Z : Nat → Int32} {V : Nat → Nat → Int32} {s f t o n b z b' z' : Int32} {v v' : Nat → Int32} {j j' : Nat}
theorem ck_f1 (hj : s.toNatClampNeg = j) (h1 : RC1 b z v B Z V j) (h : g_rng f n z = false) : cOkc Z s f t o n = false := by
  cases e : cOkc Z s f t o n with
  | false => rfl
  | true =>
    rw [okc_iff, zq hj h1] at e
    rw [(rng_iff (zin h1)).mpr ⟨e.1, e.2.2.1, e.2.2.2.1⟩] at h
    exact absurd h (by decide)
theorem ck_f2 (hj : t.toNatClampNeg = j) (h1 : RC1 b z v B Z V j) (h : g_rng o n z = false) : cOkc Z s f t o n = false := by
  cases e : cOkc Z s f t o n with
  | false => rfl
  | true =>
    rw [okc_iff, zq hj h1] at e
    rw [(rng_iff (zin h1)).mpr ⟨e.2.1, e.2.2.1, e.2.2.2.2⟩] at h
    exact absurd h (by decide)
theorem ck_t (hj : s.toNatClampNeg = j) (h1 : RC1 b z v B Z V j) (hj' : t.toNatClampNeg = j') (h1' : RC1 b' z' v' B Z V j') (h : g_rng f n z = true) (h' : g_rng o n z' = true) : cOkc Z s f t o n = true := by
  have a := (rng_iff (zin h1)).mp h
  have a' := (rng_iff (zin h1')).mp h'
  rw [okc_iff, zq hj h1, zq hj' h1']
  exact ⟨a.1, a'.1, a.2.1, a.2.2, a'.2.2⟩
theorem ck_v (hj : s.toNatClampNeg = j) (h1 : RC1 b z v B Z V j) (hj' : t.toNatClampNeg = j') (h1' : RC1 b' z' v' B Z V j') (h : g_rng f n z = true) (h' : g_rng o n z' = true) : ∀ i, i < 16 → va_cpy v v' f.toNatClampNeg o.toNatClampNeg n.toNatClampNeg i &&& 255 = va_cpy (V s.toNatClampNeg) (V t.toNatClampNeg) f.toNatClampNeg o.toNatClampNeg n.toNatClampNeg i := by
  have a := (rng_iff (zin h1)).mp h
  have hz := (vp_in_iff.mp (zin h1)).2
  have ef : f.toNatClampNeg = f.toInt.toNat := rfl
  have en : n.toNatClampNeg = n.toInt.toNat := rfl
  intro i hi
  by_cases q : o.toNatClampNeg ≤ i ∧ i < o.toNatClampNeg + n.toNatClampNeg
  · rw [pk_cpy_in q.1 q.2, pk_cpy_in q.1 q.2, hj]
    exact h1.2.2.1 _ (by omega)
  · rw [pk_cpy_out (by omega), pk_cpy_out (by omega), hj']
    exact h1'.2.2.1 i hi
theorem rng_hr (h1 : RC1 b z v B Z V j) (h : g_rng f n z = true) : ¬ f < 0 ∧ ¬ n < 0 ∧ f.toNatClampNeg + n.toNatClampNeg ≤ 16 := by
  have a := (rng_iff (zin h1)).mp h
  have hz := (vp_in_iff.mp (zin h1)).2
  have ef : f.toNatClampNeg = f.toInt.toNat := rfl
  have en : n.toNatClampNeg = n.toInt.toNat := rfl
  have e0 : (0 : Int32).toInt = 0 := rfl
  rw [Int32.lt_iff_toInt_lt, Int32.lt_iff_toInt_lt, e0]
  exact ⟨by omega, by omega, by omega⟩
def ci1 (R10 g : Nat → Int32) (s f : Int32) (i : Nat) : Prop := ∀ j, j < i → g j = R10 ((16 : Int32) * s + f + nI j).toNatClampNeg
theorem ci1_s {R10 g : Nat → Int32} {i : Nat} (hi : i < 16) (h : ci1 R10 g s f i) : ci1 R10 (upd g (nI i).toNatClampNeg (R10 ((16 : Int32) * s + f + nI i).toNatClampNeg)) s f (i + 1) := by
  rw [cl20 (by omega)]
  intro j hj
  by_cases e : j = i
  · rw [e, pk_us]
  · rw [pk_un e]; exact h j (by omega)
def ci2 (R10 g g18 : Nat → Int32) (c d i : Nat) : Prop := (∀ j, j < i → g (16 * c + d + j) = g18 j) ∧ ∀ p, (p < 16 * c + d ∨ 16 * c + d + i ≤ p) → g p = R10 p
theorem ix64c {a b i : Nat} (h : a < 4) (hb : b + i ≤ 16) : ((16 : Int32) * nI a + nI b + nI i).toNatClampNeg = 16 * a + b + i := by
  rw [show (16 : Int32) = nI 16 from rfl, pk_mul, nI_add, nI_add, nI_clamp (by omega)]
theorem ci2_s {R10 g g18 : Nat → Int32} {i : Nat} (hc : cpOk s f t o n) (q : ¬ n ≤ nI i) (hi : i < 16) (h : ci2 R10 g g18 t.toNatClampNeg o.toNatClampNeg i) : ci2 R10 (upd g ((16 : Int32) * t + o + nI i).toNatClampNeg (g18 (nI i).toNatClampNeg)) g18 t.toNatClampNeg o.toNatClampNeg (i + 1) := by
  obtain ⟨a, b, c, d, e, rfl, ha, rfl, rfl, hc4, rfl, rfl, h1, h2⟩ := hc
  have hie := ctr_lt2 (N := e) (i := i) (by omega) (by omega) q
  rw [ix64c hc4 (by omega), cl20 (by omega)]
  rw [cl20 (by omega), cl20 (by omega)] at h ⊢
  refine ⟨fun j hj => ?_, fun p hp => ?_⟩
  · by_cases z : j = i
    · rw [z, pk_us]
    · rw [pk_un (by omega)]; exact h.1 j (by omega)
  · rw [pk_un (by omega)]; exact h.2 p (by omega)
theorem ci2_0 {R10 g g18 : Nat → Int32} {c d : Nat} (h : g = R10) : ci2 R10 g g18 c d 0 := ⟨fun j hj => absurd hj (Nat.not_lt_zero _), fun p _ => by rw [h]⟩
theorem ce_16 (hc : cpOk s f t o n) : n.toNatClampNeg ≤ 16 := by
  obtain ⟨a, b, c, d, e, rfl, ha, rfl, rfl, hc4, rfl, rfl, h1, h2⟩ := hc
  rw [cl20 (by omega)]
  omega
theorem ce_ge {i : Nat} (hc : cpOk s f t o n) (hk : i ≤ n.toNatClampNeg) (q : n ≤ nI i) : i = n.toNatClampNeg := by
  obtain ⟨a, b, c, d, e, rfl, ha, rfl, rfl, hc4, rfl, rfl, h1, h2⟩ := hc
  rw [cl20 (by omega)] at hk ⊢
  have := (nI_leI (by omega) (by omega)).mp q
  omega
theorem cp_end {R8 R9 R10 g g18 : Nat → Int32} {i' : Nat} (hs : RMs R8 R9 R10 B Z V) (hc : cpOk s f t o n) (hw : cWhy B Z s f t o n = 0) (e2 : i' = n.toNatClampNeg) (h1 : ci1 R10 g18 s f n.toNatClampNeg) (h2 : ci2 R10 g g18 t.toNatClampNeg o.toNatClampNeg i') : RMs R8 R9 g B Z (aCpV B Z V s f t o n) := by
  rw [(cp_yes hw).2]
  obtain ⟨a, b, c, d, e, rfl, ha, rfl, rfl, hc4, rfl, rfl, h3, h4⟩ := hc
  rw [cl20 (by omega)] at e2 h1
  subst e2
  rw [cl20 (by omega), cl20 (by omega)] at h2
  rw [cl20 (by omega), cl20 (by omega), cl20 (by omega), cl20 (by omega), cl20 (by omega)]
  intro p hp
  obtain ⟨a1, a2, a3, a4, a5⟩ := hs p hp
  refine ⟨a1, a2, fun j hj => ?_, a4, a5⟩
  by_cases z : p = c
  · subst z
    rw [va_up_self]
    by_cases y : d ≤ j ∧ j < d + i'
    · rw [pk_cpy_in y.1 y.2]
      have g1 := h2.1 (j - d) (by omega)
      rw [show 16 * p + d + (j - d) = 16 * p + j by omega] at g1
      rw [g1, h1 (j - d) (by omega), ix64c ha (by omega), show 16 * a + b + (j - d) = 16 * a + (b + (j - d)) by omega]
      exact (hs a ha).2.2.1 _ (by omega)
    · rw [pk_cpy_out (by omega), h2.2 _ (by omega)]
      exact a3 j hj
  · rw [va_up_ne _ _ z, h2.2 _ (by omega)]
    exact a3 j hj
theorem ok_of {R8 R9 R10 : Nat → Int32} (hs : RMs R8 R9 R10 B Z V) (h1 : m_within s 0 3 = true) (h2 : m_within t 0 3 = true) : R9 s.toNatClampNeg = Z s.toNatClampNeg ∧ R9 t.toNatClampNeg = Z t.toNatClampNeg ∧ R8 s.toNatClampNeg = B s.toNatClampNeg ∧ R8 t.toNatClampNeg = B t.toNatClampNeg := ⟨(hs _ (in_lt (within_in4 h1))).2.1, (hs _ (in_lt (within_in4 h2))).2.1, (hs _ (in_lt (within_in4 h1))).1, (hs _ (in_lt (within_in4 h2))).1⟩
theorem ckM_t (h1 : ¬ f < 0) (h2 : ¬ o < 0) (h3 : ¬ n < 0) (h4 : ¬ 0 < lg_cmp (f.toInt64 + n.toInt64) (Z s.toNatClampNeg).toInt64) (h5 : lg_cmp (o.toInt64 + n.toInt64) (Z t.toNatClampNeg).toInt64 ≤ 0) : cOkc Z s f t o n = true := by
  rw [lg_cmp_gt, Int64.not_lt] at h4
  rw [lg_cmp_le] at h5
  have k4 := sum_le h4
  have k5 := sum_le h5
  rw [Int32.lt_iff_toInt_lt] at h1 h2 h3
  have e0 : (0 : Int32).toInt = 0 := rfl
  rw [okc_iff]
  omega
theorem sum_gt {x n z : Int32} (h : z.toInt64 < (x.toInt64 + n.toInt64)) : z.toInt < x.toInt + n.toInt := by
  rw [Int64.lt_iff_toInt_lt, add_int64, i64_int] at h
  exact h
theorem ckM_f (h : f < 0 ∨ o < 0 ∨ n < 0 ∨ 0 < lg_cmp (f.toInt64 + n.toInt64) (Z s.toNatClampNeg).toInt64 ∨ ¬ lg_cmp (o.toInt64 + n.toInt64) (Z t.toNatClampNeg).toInt64 ≤ 0) : cOkc Z s f t o n = false := by
  cases e : cOkc Z s f t o n with
  | false => rfl
  | true =>
    rw [okc_iff] at e
    have e0 : (0 : Int32).toInt = 0 := rfl
    rcases h with h | h | h | h | h
    · rw [Int32.lt_iff_toInt_lt] at h; omega
    · rw [Int32.lt_iff_toInt_lt] at h; omega
    · rw [Int32.lt_iff_toInt_lt] at h; omega
    · rw [lg_cmp_gt] at h
      have := sum_gt h
      omega
    · rw [lg_cmp_le, Int64.not_le] at h
      have := sum_gt h
      omega
end CPY
theorem RCs_sh0 {b0 z0 : Int32} {v0 : Nat → Int32} {b1 z1 : Int32} {v1 : Nat → Int32} {b2 z2 : Int32} {v2 : Nat → Int32} {b3 z3 : Int32} {v3 : Nat → Int32} {B Z : Nat → Int32} {V : Nat → Nat → Int32} {v : Nat → Int32} {q b n bb zz : Int32} (hs : RCs b0 z0 v0 b1 z1 v1 b2 z2 v2 b3 z3 v3 B Z V) (hw : m_within q 0 3 = true) (hk : q.toNatClampNeg = 0) (hb : bOk b) (h0 : 0 ≤ n) (h1 : n ≤ 16) (e1 : bb = b) (e2 : zz = if b = 0 then 0 else n) (h : ∀ p, p < 16 → v p = 0) : RCs bb zz v b1 z1 v1 b2 z2 v2 b3 z3 v3 (aShB B q b n) (aShZ Z q b n) (aShV V q b n) := by
  have ok := sOk_t hw hb h0 h1
  rw [shB_ok ok, shZ_ok ok, shV_ok ok, e1, e2]
  exact RCs_s0 hk hs hb (z17' h0 h1) h
theorem RCs_sh1 {b0 z0 : Int32} {v0 : Nat → Int32} {b1 z1 : Int32} {v1 : Nat → Int32} {b2 z2 : Int32} {v2 : Nat → Int32} {b3 z3 : Int32} {v3 : Nat → Int32} {B Z : Nat → Int32} {V : Nat → Nat → Int32} {v : Nat → Int32} {q b n bb zz : Int32} (hs : RCs b0 z0 v0 b1 z1 v1 b2 z2 v2 b3 z3 v3 B Z V) (hw : m_within q 0 3 = true) (hk : q.toNatClampNeg = 1) (hb : bOk b) (h0 : 0 ≤ n) (h1 : n ≤ 16) (e1 : bb = b) (e2 : zz = if b = 0 then 0 else n) (h : ∀ p, p < 16 → v p = 0) : RCs b0 z0 v0 bb zz v b2 z2 v2 b3 z3 v3 (aShB B q b n) (aShZ Z q b n) (aShV V q b n) := by
  have ok := sOk_t hw hb h0 h1
  rw [shB_ok ok, shZ_ok ok, shV_ok ok, e1, e2]
  exact RCs_s1 hk hs hb (z17' h0 h1) h
theorem RCs_sh2 {b0 z0 : Int32} {v0 : Nat → Int32} {b1 z1 : Int32} {v1 : Nat → Int32} {b2 z2 : Int32} {v2 : Nat → Int32} {b3 z3 : Int32} {v3 : Nat → Int32} {B Z : Nat → Int32} {V : Nat → Nat → Int32} {v : Nat → Int32} {q b n bb zz : Int32} (hs : RCs b0 z0 v0 b1 z1 v1 b2 z2 v2 b3 z3 v3 B Z V) (hw : m_within q 0 3 = true) (hk : q.toNatClampNeg = 2) (hb : bOk b) (h0 : 0 ≤ n) (h1 : n ≤ 16) (e1 : bb = b) (e2 : zz = if b = 0 then 0 else n) (h : ∀ p, p < 16 → v p = 0) : RCs b0 z0 v0 b1 z1 v1 bb zz v b3 z3 v3 (aShB B q b n) (aShZ Z q b n) (aShV V q b n) := by
  have ok := sOk_t hw hb h0 h1
  rw [shB_ok ok, shZ_ok ok, shV_ok ok, e1, e2]
  exact RCs_s2 hk hs hb (z17' h0 h1) h
theorem RCs_sh3 {b0 z0 : Int32} {v0 : Nat → Int32} {b1 z1 : Int32} {v1 : Nat → Int32} {b2 z2 : Int32} {v2 : Nat → Int32} {b3 z3 : Int32} {v3 : Nat → Int32} {B Z : Nat → Int32} {V : Nat → Nat → Int32} {v : Nat → Int32} {q b n bb zz : Int32} (hs : RCs b0 z0 v0 b1 z1 v1 b2 z2 v2 b3 z3 v3 B Z V) (hw : m_within q 0 3 = true) (hk : q.toNatClampNeg = 3) (hb : bOk b) (h0 : 0 ≤ n) (h1 : n ≤ 16) (e1 : bb = b) (e2 : zz = if b = 0 then 0 else n) (h : ∀ p, p < 16 → v p = 0) : RCs b0 z0 v0 b1 z1 v1 b2 z2 v2 bb zz v (aShB B q b n) (aShZ Z q b n) (aShV V q b n) := by
  have ok := sOk_t hw hb h0 h1
  rw [shB_ok ok, shZ_ok ok, shV_ok ok, e1, e2]
  exact RCs_s3 hk hs hb (z17' h0 h1) h
theorem wr_0 {x : Int32} (h : vp_in x 16) : ¬ x < 0 := by
  rw [vp_in_iff] at h
  rw [Int32.lt_iff_toInt_lt]
  have e0 : (0 : Int32).toInt = 0 := rfl
  omega
theorem wr_16 {x : Int32} (h : vp_in x 16) : ¬ 16 ≤ x := by
  rw [vp_in_iff] at h
  rw [Int32.le_iff_toInt_le]
  have e0 : (16 : Int32).toInt = 16 := rfl
  omega
