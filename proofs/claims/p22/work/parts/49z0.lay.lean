/-! ===== a laying by its number ===== -/
def zBt (f : Nat) : Int64 := (1 : Int64) <<< ((nI f).toInt64 &&& 63)
theorem zBt_or (x : Int64) {f : Nat} (hf : f < 64) : bfx (x ||| zBt f) = sB (bfx x) f := bf_or1 x hf
def zWn (fr : Nat → Bool) : Nat → Nat → Nat
  | 0, m => if m = 0 then 1 else 0
  | n + 1, m => if fr (63 - n) = false ∨ m % 2 = 1 then zWn fr n (m / 2) else (if (63 - n) % 8 < 7 ∧ fr (64 - n) = true ∧ m / 2 % 2 = 0 then zWn fr n (m / 2 ||| 1) else 0) + (if 63 - n < 56 ∧ fr (71 - n) = true then zWn fr n (m / 2 ||| 128) else 0)
theorem zWn_eq (fr : Nat → Bool) : ∀ (n m : Nat), Wd fr n m = nI (zWn fr n m)
  | 0, m => by
    show (if m = 0 then (1 : Int32) else 0) = nI (if m = 0 then 1 else 0)
    by_cases c : m = 0
    · rw [if_pos c, if_pos c]; rfl
    · rw [if_neg c, if_neg c]; rfl
  | n + 1, m => by
    have ih := zWn_eq fr n
    show (if fr (63 - n) = false ∨ m % 2 = 1 then Wd fr n (m / 2) else (if (63 - n) % 8 < 7 ∧ fr (64 - n) = true ∧ m / 2 % 2 = 0 then Wd fr n (m / 2 ||| 1) else 0) + (if 63 - n < 56 ∧ fr (71 - n) = true then Wd fr n (m / 2 ||| 128) else 0)) = nI (if fr (63 - n) = false ∨ m % 2 = 1 then zWn fr n (m / 2) else (if (63 - n) % 8 < 7 ∧ fr (64 - n) = true ∧ m / 2 % 2 = 0 then zWn fr n (m / 2 ||| 1) else 0) + (if 63 - n < 56 ∧ fr (71 - n) = true then zWn fr n (m / 2 ||| 128) else 0))
    by_cases c : fr (63 - n) = false ∨ m % 2 = 1
    · rw [if_pos c, if_pos c]; exact ih _
    · rw [if_neg c, if_neg c, ← nI_add]
      by_cases c1 : (63 - n) % 8 < 7 ∧ fr (64 - n) = true ∧ m / 2 % 2 = 0
      · rw [if_pos c1, if_pos c1, ih]
        by_cases c2 : 63 - n < 56 ∧ fr (71 - n) = true
        · rw [if_pos c2, if_pos c2, ih]
        · rw [if_neg c2, if_neg c2]; rfl
      · rw [if_neg c1, if_neg c1]
        by_cases c2 : 63 - n < 56 ∧ fr (71 - n) = true
        · rw [if_pos c2, if_pos c2, ih]; rfl
        · rw [if_neg c2, if_neg c2]; rfl
theorem zWn_le (fr : Nat → Bool) : ∀ (n m : Nat), n ≤ 64 → m < 256 → zWn fr n m ≤ gB (64 - n) m
  | 0, m, _, hm => by
    show (if m = 0 then 1 else 0) ≤ gB 64 m
    split
    · exact wt_1 ⟨m, hm⟩
    · exact Nat.zero_le _
  | n + 1, m, hn, hm => by
    have ih := fun m2 h2 => zWn_le fr n m2 (by omega) h2
    have ef : 64 - n = 63 - n + 1 := by omega
    show (if fr (63 - n) = false ∨ m % 2 = 1 then zWn fr n (m / 2) else (if (63 - n) % 8 < 7 ∧ fr (64 - n) = true ∧ m / 2 % 2 = 0 then zWn fr n (m / 2 ||| 1) else 0) + (if 63 - n < 56 ∧ fr (71 - n) = true then zWn fr n (m / 2 ||| 128) else 0)) ≤ _
    rw [show 64 - (n + 1) = 63 - n by omega]
    rw [ef] at ih
    by_cases c : fr (63 - n) = false ∨ m % 2 = 1
    · rw [if_pos c]
      exact Nat.le_trans (ih (m / 2) (by omega)) (gOk_one (by omega) hm)
    · rw [if_neg c]
      have hev : m % 2 = 0 := by
        have : ¬ m % 2 = 1 := fun z => c (Or.inr z)
        omega
      have g := gOk_two (f := 63 - n) (m := m) (by omega) hm hev
      have p1 : (if (63 - n) % 8 < 7 ∧ fr (64 - n) = true ∧ m / 2 % 2 = 0 then zWn fr n (m / 2 ||| 1) else 0) ≤ (if (63 - n) % 8 < 7 ∧ m / 2 % 2 = 0 then gB (63 - n + 1) (m / 2 + 1) else 0) := by
        by_cases z : (63 - n) % 8 < 7 ∧ fr (64 - n) = true ∧ m / 2 % 2 = 0
        · rw [if_pos z, if_pos ⟨z.1, z.2.2⟩]
          have e : m / 2 ||| 1 = m / 2 + 1 := by rw [← or1_n]; omega
          rw [e]
          exact ih _ (by omega)
        · rw [if_neg z]
          exact Nat.zero_le _
      have p2 : (if 63 - n < 56 ∧ fr (71 - n) = true then zWn fr n (m / 2 ||| 128) else 0) ≤ (if 63 - n < 56 then gB (63 - n + 1) (m / 2 + 128) else 0) := by
        by_cases z : 63 - n < 56 ∧ fr (71 - n) = true
        · rw [if_pos z, if_pos z.1, ← or128_n (by omega)]
          exact ih _ (by omega)
        · rw [if_neg z]
          exact Nat.zero_le _
      exact Nat.le_trans (Nat.add_le_add p1 p2) g
theorem zWn_b (fr : Nat → Bool) {n m : Nat} (hn : n ≤ 64) (hm : m < 256) : zWn fr n m ≤ 531250000 := Nat.le_trans (zWn_le fr n m hn hm) (gB_le (by omega) hm)
def zAw (on : Nat → Bool) (f mk : Nat) : Nat := if f % 8 < 7 ∧ on (f + 1) = true ∧ mk / 2 % 2 = 0 then zWn on (63 - f) (mk / 2 ||| 1) else 0
def zAc (on : Nat → Bool) (f mk : Nat) : Nat := if f < 56 ∧ on (f + 8) = true then zWn on (63 - f) (mk / 2 ||| 128) else 0
theorem zWn_s {on : Nat → Bool} {f : Nat} (mk : Nat) (hf : f < 64) : zWn on (64 - f) mk = if on f = false ∨ mk % 2 = 1 then zWn on (63 - f) (mk / 2) else zAw on f mk + zAc on f mk := by
  have e : zWn on (63 - f + 1) mk = if on (63 - (63 - f)) = false ∨ mk % 2 = 1 then zWn on (63 - f) (mk / 2) else (if (63 - (63 - f)) % 8 < 7 ∧ on (64 - (63 - f)) = true ∧ mk / 2 % 2 = 0 then zWn on (63 - f) (mk / 2 ||| 1) else 0) + (if 63 - (63 - f) < 56 ∧ on (71 - (63 - f)) = true then zWn on (63 - f) (mk / 2 ||| 128) else 0) := rfl
  rw [show 63 - (63 - f) = f by omega, show 64 - (63 - f) = f + 1 by omega, show 71 - (63 - f) = f + 8 by omega] at e
  rw [show 64 - f = 63 - f + 1 by omega]
  exact e
theorem zAw_b {on : Nat → Bool} {f mk : Nat} (hm : mk < 256) : zAw on f mk ≤ 531250000 := by
  unfold zAw
  split
  · exact zWn_b on (by omega) (or_lt (by omega) (by decide))
  · exact Nat.zero_le _
/-- number left, mask, along, across -/
abbrev ZS : Type := Nat × Nat × Int64 × Int64
def zstp (on : Nat → Bool) (f : Nat) (p : ZS) : ZS := if on f = true ∧ p.2.1 % 2 = 0 then (if p.1 < zAw on f p.2.1 then (p.1, p.2.1 / 2 / 2 * 2 + 1, p.2.2.1 ||| zBt f, p.2.2.2) else (p.1 - zAw on f p.2.1, p.2.1 / 2 + 128, p.2.2.1, p.2.2.2 ||| zBt f)) else (p.1, p.2.1 / 2, p.2.2.1, p.2.2.2)
def zst (on : Nat → Bool) (x : Nat) : Nat → ZS
  | 0 => (x, 0, 0, 0)
  | f + 1 => zstp on f (zst on x f)
/-- what is covered so far -/
def zCv (on : Nat → Bool) (f mk : Nat) (A C : Nat → Bool) : Prop := (∀ g, A g = true → g % 8 < 7 ∧ g < f) ∧ (∀ g, C g = true → g < 56 ∧ g < f) ∧ ∀ g, covN A C g = if g < f then bN (on g) else bN (mk.testBit (g - f))
def zI (on : Nat → Bool) (f : Nat) (p : ZS) : Prop := sub p.2.1 (wf on f) ∧ p.1 < zWn on (64 - f) p.2.1 ∧ zCv on f p.2.1 (bfx p.2.2.1) (bfx p.2.2.2)
section ZCV
variable {on A C : Nat → Bool} {f mk : Nat}
theorem z_sub0 (hs : sub mk (wf on f)) (h : mk % 2 = 1) : on f = true := by
  have e := hs 0 (by rw [tb0, decide_eq_true h])
  rw [wf_bit, Nat.add_zero, Bool.and_eq_true] at e
  exact e.2
theorem z_tb0 (hs : sub mk (wf on f)) (h : on f = false ∨ mk % 2 = 1) : mk.testBit 0 = on f := by
  rw [tb0]
  rcases h with h | h
  · rw [h, decide_eq_false_iff_not]
    intro z
    rw [z_sub0 hs z] at h
    exact absurd h (by decide)
  · rw [z_sub0 hs h, decide_eq_true h]
theorem zs_half (hs : sub mk (wf on f)) : sub (mk / 2) (wf on (f + 1)) := by
  intro i hi
  rw [tbs] at hi
  have e := hs _ hi
  rw [wf_bit, Bool.and_eq_true, decide_eq_true_iff] at e
  rw [wf_bit, decide_eq_true (show i < 8 by omega), Bool.true_and, show f + 1 + i = f + (i + 1) by omega]
  exact e.2
theorem zs_1 (hs : sub mk (wf on f)) (ho : on (f + 1) = true) : sub (mk / 2 ||| 1) (wf on (f + 1)) := by
  intro i hi
  rw [Nat.testBit_or, Bool.or_eq_true] at hi
  rcases hi with hi | hi
  · exact zs_half hs i hi
  · rw [t1, decide_eq_true_iff] at hi
    subst hi
    rw [wf_bit, Nat.add_zero, ho]
    rfl
theorem zs_128 (hs : sub mk (wf on f)) (ho : on (f + 8) = true) : sub (mk / 2 ||| 128) (wf on (f + 1)) := by
  intro i hi
  rw [Nat.testBit_or, Bool.or_eq_true] at hi
  rcases hi with hi | hi
  · exact zs_half hs i hi
  · rw [t128, decide_eq_true_iff] at hi
    subst hi
    rw [wf_bit, show f + 1 + 7 = f + 8 by omega, ho]
    rfl
theorem zCv_n (h : zCv on f mk A C) (hs : sub mk (wf on f)) (hn : on f = false ∨ mk % 2 = 1) : zCv on (f + 1) (mk / 2) A C := by
  refine ⟨fun g q => ⟨(h.1 g q).1, by have := (h.1 g q).2; omega⟩, fun g q => ⟨(h.2.1 g q).1, by have := (h.2.1 g q).2; omega⟩, fun g => ?_⟩
  rw [h.2.2 g]
  by_cases q : g < f
  · rw [if_pos q, if_pos (by omega)]
  · rw [if_neg q]
    by_cases q2 : g = f
    · subst q2
      rw [if_pos (by omega), Nat.sub_self, z_tb0 hs hn]
    · rw [if_neg (by omega), tbs, show g - (f + 1) + 1 = g - f by omega]
theorem cov_sA {g : Nat} (h1 : f ≠ g) (h2 : f + 1 ≠ g) : covN (sB A f) C g = covN A C g := by
  unfold covN
  rw [sB_n h1]
  by_cases q : 1 ≤ g
  · rw [sB_n (show f ≠ g - 1 by omega)]
  · rw [decide_eq_false q, Bool.false_and, Bool.false_and]
theorem cov_sC {g : Nat} (h1 : f ≠ g) (h2 : f + 8 ≠ g) : covN A (sB C f) g = covN A C g := by
  unfold covN
  rw [sB_n h1]
  by_cases q : 8 ≤ g
  · rw [sB_n (show f ≠ g - 8 by omega)]
  · rw [decide_eq_false q, Bool.false_and, Bool.false_and]
theorem cv_1 {a b c d : Nat} (h : a + b + c + d = 0) : 1 + b + c + d = 1 := by omega
theorem cv_2 {a b c d : Nat} (h : a + b + c + d = 0) : a + 1 + c + d = 1 := by omega
theorem cv_3 {a b c d : Nat} (h : a + b + c + d = 0) : a + b + 1 + d = 1 := by omega
theorem cv_4 {a b c d : Nat} (h : a + b + c + d = 0) : a + b + c + 1 = 1 := by omega
theorem zCv_0 (h : zCv on f mk A C) {g : Nat} (hg : f ≤ g) (hb : mk.testBit (g - f) = false) : covN A C g = 0 := by
  rw [h.2.2 g, if_neg (by omega), hb]
  rfl
theorem zCv_a (h : zCv on f mk A C) (ho : on f = true) (h0 : mk % 2 = 0) (h1 : mk / 2 % 2 = 0) (h7 : f % 8 < 7) : zCv on (f + 1) (mk / 2 ||| 1) (sB A f) C := by
  have b0 : mk.testBit (f - f) = false := by rw [Nat.sub_self, tb0, decide_eq_false (by omega)]
  have b1 : mk.testBit (f + 1 - f) = false := by rw [show f + 1 - f = 0 + 1 by omega, ← tbs, tb0, decide_eq_false (by omega)]
  refine ⟨fun g q => ?_, fun g q => ⟨(h.2.1 g q).1, by have := (h.2.1 g q).2; omega⟩, fun g => ?_⟩
  · by_cases e : f = g
    · subst e
      exact ⟨h7, by omega⟩
    · rw [sB_n e] at q
      exact ⟨(h.1 g q).1, by have := (h.1 g q).2; omega⟩
  · by_cases e : f = g
    · subst e
      have z := zCv_0 h (Nat.le_refl f) b0
      rw [if_pos (by omega), ho]
      unfold covN at z ⊢
      rw [sB_s]
      have e2 : (decide (1 ≤ f) && sB A f (f - 1)) = (decide (1 ≤ f) && A (f - 1)) := by
        by_cases q : 1 ≤ f
        · rw [sB_n (show f ≠ f - 1 by omega)]
        · rw [decide_eq_false q, Bool.false_and, Bool.false_and]
      rw [e2]
      exact cv_1 z
    · by_cases e1 : f + 1 = g
      · subst e1
        have z := zCv_0 h (Nat.le_succ f) b1
        rw [if_neg (by omega), Nat.sub_self, Nat.testBit_or, t1, decide_eq_true rfl, Bool.or_true]
        unfold covN at z ⊢
        rw [sB_n (show f ≠ f + 1 by omega), Nat.add_sub_cancel, sB_s, decide_eq_true (show 1 ≤ f + 1 by omega)]
        exact cv_3 z
      · rw [cov_sA e e1, h.2.2 g]
        by_cases q : g < f
        · rw [if_pos q, if_pos (by omega)]
        · rw [if_neg q, if_neg (by omega), Nat.testBit_or, t1, decide_eq_false (show ¬ g - (f + 1) = 0 by omega), Bool.or_false, tbs, show g - (f + 1) + 1 = g - f by omega]
theorem zCv_c (h : zCv on f mk A C) (hm : mk < 256) (ho : on f = true) (h0 : mk % 2 = 0) (h7 : f < 56) : zCv on (f + 1) (mk / 2 ||| 128) A (sB C f) := by
  have b0 : mk.testBit (f - f) = false := by rw [Nat.sub_self, tb0, decide_eq_false (by omega)]
  have b8 : mk.testBit (f + 8 - f) = false := tb_hi hm (by omega)
  refine ⟨fun g q => ⟨(h.1 g q).1, by have := (h.1 g q).2; omega⟩, fun g q => ?_, fun g => ?_⟩
  · by_cases e : f = g
    · subst e
      exact ⟨h7, by omega⟩
    · rw [sB_n e] at q
      exact ⟨(h.2.1 g q).1, by have := (h.2.1 g q).2; omega⟩
  · by_cases e : f = g
    · subst e
      have z := zCv_0 h (Nat.le_refl f) b0
      rw [if_pos (by omega), ho]
      unfold covN at z ⊢
      rw [sB_s]
      have e2 : (decide (8 ≤ f) && sB C f (f - 8)) = (decide (8 ≤ f) && C (f - 8)) := by
        by_cases q : 8 ≤ f
        · rw [sB_n (show f ≠ f - 8 by omega)]
        · rw [decide_eq_false q, Bool.false_and, Bool.false_and]
      rw [e2]
      exact cv_2 z
    · by_cases e1 : f + 8 = g
      · subst e1
        have z := zCv_0 h (show f ≤ f + 8 by omega) b8
        rw [if_neg (by omega), show f + 8 - (f + 1) = 7 by omega, Nat.testBit_or, t128, decide_eq_true rfl, Bool.or_true]
        unfold covN at z ⊢
        rw [sB_n (show f ≠ f + 8 by omega), Nat.add_sub_cancel, sB_s, decide_eq_true (show 8 ≤ f + 8 by omega)]
        exact cv_4 z
      · rw [cov_sC e e1, h.2.2 g]
        by_cases q : g < f
        · rw [if_pos q, if_pos (by omega)]
        · rw [if_neg q, if_neg (by omega), Nat.testBit_or, t128, decide_eq_false (show ¬ g - (f + 1) = 7 by omega), Bool.or_false, tbs, show g - (f + 1) + 1 = g - f by omega]
end ZCV
theorem zI_0 {on : Nat → Bool} {x : Nat} (hx : x < zWn on 64 0) : zI on 0 (x, 0, 0, 0) := by
  refine ⟨sub_0 _, hx, fun g q => ?_, fun g q => ?_, fun g => ?_⟩
  · rw [bf_0] at q
    exact absurd q (by decide)
  · rw [bf_0] at q
    exact absurd q (by decide)
  · rw [if_neg (Nat.not_lt_zero g), Nat.zero_testBit]
    unfold covN
    rw [bf_0, bf_0, bf_0, Bool.and_false, Bool.and_false]
    rfl
theorem z_lt1 {p a c : Nat} (h : p < a + c) (h2 : ¬ p < a) : p - a < c := by omega
theorem zI_s {on : Nat → Bool} {f : Nat} {p : ZS} (hf : f < 64) (h : zI on f p) : zI on (f + 1) (zstp on f p) := by
  obtain ⟨l, mk, al, ac⟩ := p
  obtain ⟨hs, hl, hc⟩ := h
  dsimp only at hs hl hc
  have hm := sub_lt hs (wf_lt on f)
  rw [zWn_s mk hf] at hl
  unfold zstp
  dsimp only
  by_cases c : on f = true ∧ mk % 2 = 0
  · rw [if_pos c]
    rw [if_neg (fun z => z.elim (fun y => by rw [c.1] at y; exact absurd y (by decide)) (fun y => by rw [c.2] at y; exact absurd y (by decide)))] at hl
    by_cases q : l < zAw on f mk
    · rw [if_pos q, or1_n]
      by_cases k : f % 8 < 7 ∧ on (f + 1) = true ∧ mk / 2 % 2 = 0
      · have e : zAw on f mk = zWn on (63 - f) (mk / 2 ||| 1) := if_pos k
        refine ⟨zs_1 hs k.2.1, ?_, ?_⟩
        · dsimp only
          rw [show 64 - (f + 1) = 63 - f by omega, ← e]
          exact q
        · dsimp only
          rw [zBt_or al hf]
          exact zCv_a hc c.1 c.2 k.2.2 k.1
      · have e : zAw on f mk = 0 := if_neg k
        rw [e] at q
        exact absurd q (Nat.not_lt_zero _)
    · rw [if_neg q, or128_n (by omega)]
      have hl2 := z_lt1 hl q
      by_cases k : f < 56 ∧ on (f + 8) = true
      · have e : zAc on f mk = zWn on (63 - f) (mk / 2 ||| 128) := if_pos k
        refine ⟨zs_128 hs k.2, ?_, ?_⟩
        · dsimp only
          rw [show 64 - (f + 1) = 63 - f by omega, ← e]
          exact hl2
        · dsimp only
          rw [zBt_or ac hf]
          exact zCv_c hc hm c.1 c.2 k.1
      · have e : zAc on f mk = 0 := if_neg k
        rw [e] at hl2
        exact absurd hl2 (Nat.not_lt_zero _)
  · rw [if_neg c]
    have n : on f = false ∨ mk % 2 = 1 := by
      cases ho : on f with
      | false => exact Or.inl rfl
      | true =>
        rcases Nat.mod_two_eq_zero_or_one mk with z | z
        · exact absurd ⟨ho, z⟩ c
        · exact Or.inr z
    rw [if_pos n] at hl
    refine ⟨zs_half hs, ?_, zCv_n hc hs n⟩
    dsimp only
    rw [show 64 - (f + 1) = 63 - f by omega]
    exact hl
theorem zI_all {on : Nat → Bool} {x : Nat} (hx : x < zWn on 64 0) : ∀ f, f ≤ 64 → zI on f (zst on x f)
  | 0, _ => zI_0 hx
  | f + 1, h => zI_s (by omega) (zI_all hx f (by omega))
/-- a laying -/
def LY (on A C : Nat → Bool) : Prop := gOK on A C on
theorem zI_LY {fl : Int64} {p : ZS} (h : zI (bfx fl) 64 p) : LY (bfx fl) (bfx p.2.2.1) (bfx p.2.2.2) := by
  obtain ⟨hs, -, h1, h2, h3⟩ := h
  have e := wf_64 fl hs
  refine ⟨fun g q => (h1 g q).1, fun g q => (h2 g q).1, fun g => ?_, fun g q => q⟩
  rw [h3 g]
  by_cases q : g < 64
  · rw [if_pos q]
  · rw [if_neg q, e, Nat.zero_testBit, bf_hi fl (by omega)]
def zLy (fl : Int64) (x : Nat) : Int64 × Int64 := (zst (bfx fl) x 64).2.2
theorem zLy_LY {fl : Int64} {x : Nat} (hx : x < zWn (bfx fl) 64 0) : LY (bfx fl) (bfx (zLy fl x).1) (bfx (zLy fl x).2) := zI_LY (zI_all hx 64 (Nat.le_refl _))
/-! steps of the walks -/
section ZST
variable {on : Nat → Bool} {x i l mk : Nat} {a c : Int64}
theorem zst_n (h : zst on x i = (l, mk, a, c)) (hn : on i = false ∨ mk % 2 = 1) : zst on x (i + 1) = (l, mk / 2, a, c) := by
  show zstp on i (zst on x i) = _
  rw [h]
  unfold zstp
  dsimp only
  rw [if_neg (fun z => hn.elim (fun y => by rw [z.1] at y; exact absurd y (by decide)) (fun y => by rw [z.2] at y; exact absurd y (by decide)))]
theorem zst_a (h : zst on x i = (l, mk, a, c)) (ho : on i = true) (h0 : mk % 2 = 0) (hq : l < zAw on i mk) : zst on x (i + 1) = (l, mk / 2 / 2 * 2 + 1, a ||| zBt i, c) := by
  show zstp on i (zst on x i) = _
  rw [h]
  unfold zstp
  dsimp only
  rw [if_pos ⟨ho, h0⟩, if_pos hq]
theorem zst_c (h : zst on x i = (l, mk, a, c)) (ho : on i = true) (h0 : mk % 2 = 0) (hq : ¬ l < zAw on i mk) : zst on x (i + 1) = (l - zAw on i mk, mk / 2 + 128, a, c ||| zBt i) := by
  show zstp on i (zst on x i) = _
  rw [h]
  unfold zstp
  dsimp only
  rw [if_pos ⟨ho, h0⟩, if_neg hq]
theorem zst_i (hx : x < zWn on 64 0) (hi : i ≤ 64) (h : zst on x i = (l, mk, a, c)) : sub mk (wf on i) ∧ mk < 256 ∧ l < 2 ^ 31 := by
  have z := zI_all hx i hi
  rw [h] at z
  have hm := sub_lt z.1 (wf_lt on i)
  refine ⟨z.1, hm, ?_⟩
  have q := z.2.1
  dsimp only at q hm
  have := zWn_b on (n := 64 - i) (m := mk) (by omega) hm
  omega
end ZST
theorem zst_o1 {on : Nat → Bool} {x i l mk : Nat} {a c : Int64} (h : zst on x i = (l, mk, a, c)) (e : i = 64) : a = (zst on x 64).2.2.1 := by
  subst e
  rw [h]
theorem zst_o2 {on : Nat → Bool} {x i l mk : Nat} {a c : Int64} (h : zst on x i = (l, mk, a, c)) (e : i = 64) : c = (zst on x 64).2.2.2 := by
  subst e
  rw [h]
/-! looked up -/
theorem zsub {a b : Nat} (h : ¬ a < b) : nI a - nI b = nI (a - b) := by
  have e : nI a = nI (a - b) + nI b := by rw [nI_add, Nat.sub_add_cancel (by omega)]
  rw [e, Int32.add_sub_cancel]
theorem zcmp_t {a b : Nat} (ha : a < 2 ^ 31) (hb : b ≤ 531250000) (h : ¬ nI b ≤ nI a) : a < b := by
  rw [nI_leI (by omega) ha] at h
  omega
theorem zcmp_f {a b : Nat} (ha : a < 2 ^ 31) (hb : b ≤ 531250000) (h : nI b ≤ nI a) : ¬ a < b := by
  rw [nI_leI (by omega) ha] at h
  omega
section ZLK
variable {jf : Int64} {fw : Nat → Int32} {f mk : Nat}
theorem zaw_0 (hf : f < 64) (h : g_alongFits jf (nI f) = false) : (0 : Int32) = nI (zAw (bfx jf) f mk) := by
  rw [al_eq hf] at h
  have e : zAw (bfx jf) f mk = 0 := if_neg (fun z => by rw [decide_eq_true z.1, z.2.1] at h; exact absurd h (by decide))
  rw [e]
  rfl
theorem zaw_1 (hm : mk < 256) (h : ¬ nI mk &&& 2 = 0) : (0 : Int32) = nI (zAw (bfx jf) f mk) := by
  have e : zAw (bfx jf) f mk = 0 := if_neg (fun z => mk2_1 ⟨mk, hm⟩ h z.2.2)
  rw [e]
  rfl
theorem zaw_2 (hf : f < 64) (hm : mk < 256) (ht : tabF (bfx jf) fw 0) (hs : sub mk (wf (bfx jf) f)) (h : g_alongFits jf (nI f) = true) (h2 : nI mk &&& 2 = 0) : fw (nI ((f + 1) * 256) + nI (mk / 2 / 2 * 2 + 1)).toNatClampNeg = nI (zAw (bfx jf) f mk) := by
  rw [al_eq hf, Bool.and_eq_true, decide_eq_true_iff] at h
  have e : zAw (bfx jf) f mk = zWn (bfx jf) (63 - f) (mk / 2 ||| 1) := if_pos ⟨h.1, h.2, mk2_0 ⟨mk, hm⟩ h2⟩
  have k := ht (f + 1) (mk / 2 ||| 1) (by omega) (by omega) (zs_1 hs h.2)
  rw [e, nI_add, nI_clamp (by omega), or1_n, show (f + 1) * 256 + (mk / 2 ||| 1) = 256 * (f + 1) + (mk / 2 ||| 1) by omega, k, show 64 - (f + 1) = 63 - f by omega, zWn_eq]
def zbg (on : Nat → Bool) (f mk : Nat) : Bool := on f && decide (mk % 2 = 0)
theorem zbs_0 (hf : f < 64) (h : g_holds jf (nI f) = false) : (0 : Int32) = bI (zbg (bfx jf) f mk) := by
  rw [zbg, ← hol_t jf hf, h]
  rfl
theorem zbs_1 (hm : mk < 256) (h : ¬ nI mk &&& 1 = 0) : (0 : Int32) = bI (zbg (bfx jf) f mk) := by
  have e := mk_1 hm h
  rw [zbg, decide_eq_false (by omega), Bool.and_false]
  rfl
theorem zbs_2 (hf : f < 64) (hm : mk < 256) (h : g_holds jf (nI f) = true) (h2 : nI mk &&& 1 = 0) : (1 : Int32) = bI (zbg (bfx jf) f mk) := by
  have e := mk_0 hm h2
  rw [zbg, ← hol_t jf hf, h, decide_eq_true (by omega)]
  rfl
theorem zbg_t {on : Nat → Bool} (h : zbg on f mk = true) : on f = true ∧ mk % 2 = 0 := by
  rw [zbg, Bool.and_eq_true, decide_eq_true_iff] at h
  exact h
theorem zbg_f {on : Nat → Bool} (h : zbg on f mk = false) : on f = false ∨ mk % 2 = 1 := by
  rw [zbg, Bool.and_eq_false_iff, decide_eq_false_iff_not] at h
  rcases h with h | h
  · exact Or.inl h
  · exact Or.inr (by omega)
end ZLK
/-! where the stones along begin -/
theorem three_t : ∀ f : Fin 63, uN ((3 : Int64) <<< ((nI f.val).toInt64 &&& 63)) = 2 ^ f.val ||| 2 ^ (f.val + 1) := by decide +kernel
theorem zcl3 (x : Int64) {f g : Nat} (hf : f < 63) : bfx (x &&& (((3 : Int64) <<< ((nI f).toInt64 &&& 63)) ^^^ (-1))) g = (bfx x g && !(decide (f = g) || decide (f + 1 = g))) := by
  rw [bf_andn]
  congr 2
  have e := three_t ⟨f, hf⟩
  dsimp only at e
  unfold bfx
  rw [e, Nat.testBit_or, Nat.testBit_two_pow, Nat.testBit_two_pow]
def zAB (A : Nat → Bool) (i : Nat) (v o : Int64) : Prop := (∀ g, bfx v g = (decide (g < i) && A g)) ∧ ∀ g, i ≤ g → g < 64 → bfx o g = (A g || (decide (i < g) && A (g - 1)))
theorem zab_0 {jf al ac : Int64} (h : LY (bfx jf) (bfx al) (bfx ac)) : zAB (bfx al) 0 0 ((jf &&& (ac ^^^ (-1))) &&& ((ac <<< ((8 : Int32).toInt64 &&& 63)) ^^^ (-1))) := by
  refine ⟨fun g => by rw [bf_0, decide_eq_false (Nat.not_lt_zero g), Bool.false_and], fun g _ hg => ?_⟩
  have e := h.2.2.1 g
  rw [bf_andn, bf_andn, bs8, decide_eq_true hg, Bool.true_and]
  unfold covN at e
  have d8 : (!decide (g < 8)) = decide (8 ≤ g) := by
    by_cases q : g < 8
    · rw [decide_eq_true q, decide_eq_false (by omega)]; rfl
    · rw [decide_eq_false q, decide_eq_true (by omega)]; rfl
  rw [d8, show decide (0 < g) = decide (1 ≤ g) from rfl]
  generalize bfx jf g = t at e ⊢
  generalize bfx al g = a at e ⊢
  generalize bfx ac g = b at e ⊢
  generalize (decide (1 ≤ g) && bfx al (g - 1)) = c at e ⊢
  generalize (decide (8 ≤ g) && bfx ac (g - 8)) = d at e ⊢
  cases t <;> cases a <;> cases b <;> cases c <;> cases d <;> simp_all [bN]
theorem zab_y {jf al ac v o : Int64} {i : Nat} (hi : i < 63) (h : LY (bfx jf) (bfx al) (bfx ac)) (q : zAB (bfx al) i v o) (hh : g_holds o (nI i) = true) : zAB (bfx al) (i + 1) (v ||| (1 : Int64) <<< ((nI i).toInt64 &&& 63)) (o &&& (((3 : Int64) <<< ((nI i).toInt64 &&& 63)) ^^^ (-1))) := by
  rw [hol_t o (show i < 64 by omega), q.2 i (Nat.le_refl i) (by omega), decide_eq_false (Nat.lt_irrefl i), Bool.false_and, Bool.or_false] at hh
  have a1 : bfx al (i + 1) = false := by
    have e := h.2.2.1 (i + 1)
    unfold covN at e
    obtain ⟨x1, -, -, -⟩ := pl3 e (bN_le _) (by rw [Nat.add_sub_cancel, hh, decide_eq_true (show 1 ≤ i + 1 by omega)]; rfl)
    exact bN_0 x1
  refine ⟨fun g => ?_, fun g h1 h2 => ?_⟩
  · rw [show bfx (v ||| (1 : Int64) <<< ((nI i).toInt64 &&& 63)) g = sB (bfx v) i g from congrFun (zBt_or v (show i < 64 by omega)) g]
    by_cases e : i = g
    · subst e
      rw [sB_s, decide_eq_true (show i < i + 1 by omega), hh]
      rfl
    · rw [sB_n e, q.1 g, show decide (g < i + 1) = decide (g < i) from decide_eq_decide.mpr (by omega)]
  · rw [zcl3 o hi, q.2 g (by omega) h2, decide_eq_false (show ¬ i = g by omega), Bool.false_or]
    by_cases e : i + 1 = g
    · subst e
      rw [a1, decide_eq_true rfl, decide_eq_false (Nat.lt_irrefl _)]
      simp
    · rw [decide_eq_false e, Bool.not_false, Bool.and_true, decide_eq_true (show i < g by omega), decide_eq_true (show i + 1 < g by omega)]
theorem zab_n {al v o : Int64} {i : Nat} (hi : i < 63) (q : zAB (bfx al) i v o) (hh : g_holds o (nI i) = false) : zAB (bfx al) (i + 1) v o := by
  rw [hol_t o (show i < 64 by omega), q.2 i (Nat.le_refl i) (by omega), decide_eq_false (Nat.lt_irrefl i), Bool.false_and, Bool.or_false] at hh
  refine ⟨fun g => ?_, fun g h1 h2 => ?_⟩
  · rw [q.1 g]
    by_cases e : i = g
    · subst e
      rw [hh, Bool.and_false, Bool.and_false]
    · rw [show decide (g < i + 1) = decide (g < i) from decide_eq_decide.mpr (by omega)]
  · rw [q.2 g (by omega) h2]
    by_cases e : i + 1 = g
    · subst e
      rw [Nat.add_sub_cancel, hh, Bool.and_false, Bool.and_false]
    · rw [decide_eq_true (show i < g by omega), decide_eq_true (show i + 1 < g by omega)]
theorem zab_e {jf al ac v o : Int64} {i : Nat} (e : i = 63) (h : LY (bfx jf) (bfx al) (bfx ac)) (q : zAB (bfx al) i v o) : v = al := by
  apply bx_ext
  intro j hj
  rw [q.1 j]
  by_cases z : j < i
  · rw [decide_eq_true z, Bool.true_and]
  · rw [decide_eq_false z, Bool.false_and]
    cases y : bfx al j with
    | false => rfl
    | true =>
      have := h.1 j y
      omega
/-! the number of a laying -/
def zns (on C : Nat → Bool) (f : Nat) (p : Nat × Nat) : Nat × Nat := if on f = true ∧ p.2 % 2 = 0 then (if C f = true then (p.1 + zAw on f p.2, p.2 / 2 + 128) else (p.1, p.2 / 2 / 2 * 2 + 1)) else (p.1, p.2 / 2)
def znb (on C : Nat → Bool) : Nat → Nat × Nat
  | 0 => (0, 0)
  | f + 1 => zns on C f (znb on C f)
theorem z_no4 {a b c d : Bool} (e : true = (c || d)) (k : bN a + bN b + bN c + bN d = bN true) : a = false ∧ b = false := by
  cases a <;> cases b <;> cases c <;> cases d <;> simp_all [bN]
section ZNB
variable {on A C : Nat → Bool} {f m : Nat}
theorem zb_bit (h : mOK on A C on f m) (ho : on f = true) : decide (m % 2 = 1) = ((decide (1 ≤ f) && A (f - 1)) || (decide (8 ≤ f) && C (f - 8))) := by
  have e := (h.2 0 (by decide)).2 (by rw [Nat.add_zero]; exact ho)
  rw [tb0, Nat.add_zero] at e
  rw [e, show decide (0 = 0 ∧ 1 ≤ f) = decide (1 ≤ f) from decide_eq_decide.mpr (by omega)]
theorem zb_yes (hl : LY on A C) (h : mOK on A C on f m) (ho : on f = true) (h0 : m % 2 = 0) : (A f = true ∧ C f = false) ∨ (A f = false ∧ C f = true) := by
  have e := zb_bit h ho
  rw [decide_eq_false (by omega)] at e
  have k := hl.2.2.1 f
  unfold covN at k
  rw [ho] at k
  generalize (decide (1 ≤ f) && A (f - 1)) = c at e k
  generalize (decide (8 ≤ f) && C (f - 8)) = d at e k
  generalize A f = a at k ⊢
  generalize C f = b at k ⊢
  cases a <;> cases b <;> cases c <;> cases d <;> simp_all [bN]
theorem zb_no (hl : LY on A C) (h : mOK on A C on f m) (hn : on f = false ∨ m % 2 = 1) : A f = false ∧ C f = false := by
  cases ho : on f with
  | false => exact g_N hl ho
  | true =>
    rcases hn with z | z
    · rw [ho] at z
      exact absurd z (by decide)
    · have e := zb_bit h ho
      rw [decide_eq_true z] at e
      have k := hl.2.2.1 f
      unfold covN at k
      rw [ho] at k
      exact z_no4 e k
theorem zb_sub (h : mOK on A C on f m) : sub m (wf on f) := by
  intro i hi
  rw [wf_bit]
  by_cases z : i < 8
  · rw [decide_eq_true z, Bool.true_and]
    cases y : on (f + i) with
    | true => rfl
    | false =>
      rw [(h.2 i z).1 y] at hi
      exact hi
  · rw [tb_hi h.1 (by omega)] at hi
    exact absurd hi (by decide)
theorem zm_a (hl : LY on A C) (h : mOK on A C on f m) (hA : A f = true) : mOK on A C on (f + 1) (m / 2 / 2 * 2 + 1) := by
  rw [or1_n]
  have hC := (g_A hl hA).2.1
  exact m_next h (Or.inr (Or.inl ⟨rfl, (g_A1 hl hA).1⟩)) (fun _ => by rw [hA]; rfl) (fun _ => by rw [hC]; rfl)
theorem zm_c (hl : LY on A C) (h : mOK on A C on f m) (hC : C f = true) : mOK on A C on (f + 1) (m / 2 + 128) := by
  rw [or128_n (by have := h.1; omega)]
  have hA := (g_C hl hC).2.1
  exact m_next h (Or.inr (Or.inr ⟨rfl, g_C8 hl hC⟩)) (fun _ => by rw [hA]; rfl) (fun _ => by rw [hC]; rfl)
theorem znb_m (hl : LY on A C) : ∀ f, mOK on A C on f (znb on C f).2
  | 0 => mOK_0 hl
  | f + 1 => by
    have ih := znb_m hl f
    show mOK on A C on (f + 1) (zns on C f (znb on C f)).2
    generalize znb on C f = p at ih ⊢
    unfold zns
    by_cases c : on f = true ∧ p.2 % 2 = 0
    · rw [if_pos c]
      rcases zb_yes hl ih c.1 c.2 with ⟨a, b⟩ | ⟨a, b⟩
      · rw [if_neg (by rw [b]; decide)]
        exact zm_a hl ih a
      · rw [if_pos b]
        exact zm_c hl ih b
    · rw [if_neg c]
      have n : on f = false ∨ p.2 % 2 = 1 := by
        cases ho : on f with
        | false => exact Or.inl rfl
        | true =>
          rcases Nat.mod_two_eq_zero_or_one p.2 with z | z
          · exact absurd ⟨ho, z⟩ c
          · exact Or.inr z
      obtain ⟨a, b⟩ := zb_no hl ih n
      exact m_half ih a b
theorem znb_n {i n mk : Nat} (h : znb on C i = (n, mk)) (hn : on i = false ∨ mk % 2 = 1) : znb on C (i + 1) = (n, mk / 2) := by
  show zns on C i (znb on C i) = _
  rw [h]
  unfold zns
  dsimp only
  rw [if_neg (fun z => hn.elim (fun y => by rw [z.1] at y; exact absurd y (by decide)) (fun y => by rw [z.2] at y; exact absurd y (by decide)))]
theorem znb_c {i n mk : Nat} (h : znb on C i = (n, mk)) (ho : on i = true) (h0 : mk % 2 = 0) (hC : C i = true) : znb on C (i + 1) = (n + zAw on i mk, mk / 2 + 128) := by
  show zns on C i (znb on C i) = _
  rw [h]
  unfold zns
  dsimp only
  rw [if_pos ⟨ho, h0⟩, if_pos hC]
theorem znb_a {i n mk : Nat} (h : znb on C i = (n, mk)) (ho : on i = true) (h0 : mk % 2 = 0) (hC : C i = false) : znb on C (i + 1) = (n, mk / 2 / 2 * 2 + 1) := by
  show zns on C i (znb on C i) = _
  rw [h]
  unfold zns
  dsimp only
  rw [if_pos ⟨ho, h0⟩, if_neg (by rw [hC]; decide)]
theorem znb_i {i n mk : Nat} (hl : LY on A C) (h : znb on C i = (n, mk)) : mOK on A C on i mk ∧ sub mk (wf on i) ∧ mk < 256 := by
  have z := znb_m hl i
  rw [h] at z
  exact ⟨z, zb_sub z, z.1⟩
theorem znb_o {i n mk : Nat} (h : znb on C i = (n, mk)) (e : i = 64) : nI n = nI (znb on C 64).1 := by
  subst e
  rw [h]
/-- the reference asks for the stone along -/
theorem znb_ra {i n mk : Nat} (hl : LY on A C) (h : znb on C i = (n, mk)) (ho : on i = true) (h0 : mk % 2 = 0) (hA : A i = true) : znb on C (i + 1) = (n, mk / 2 / 2 * 2 + 1) := znb_a h ho h0 (g_A hl hA).2.1
theorem znb_rc {i n mk : Nat} (hl : LY on A C) (h : znb on C i = (n, mk)) (ho : on i = true) (h0 : mk % 2 = 0) (hA : A i = false) : znb on C (i + 1) = (n + zAw on i mk, mk / 2 + 128) := by
  rcases zb_yes hl (znb_i hl h).1 ho h0 with ⟨a, -⟩ | ⟨-, b⟩
  · rw [hA] at a
    exact absurd a (by decide)
  · exact znb_c h ho h0 b
end ZNB
/-! the reference's table, nothing glued -/
def zT (on : Nat → Bool) (w : Nat → Int32) : Prop := ∀ f m, f ≤ 64 → sub m (wf on f) → w (256 * f + m) = nI (zWn on (64 - f) m)
theorem sub_eq {m w : Nat} (h : sub m w) : m &&& w = m := by
  apply Nat.eq_of_testBit_eq
  intro i
  rw [Nat.testBit_and]
  cases y : m.testBit i with
  | false => rfl
  | true => rw [h i y]; rfl
theorem zT_of {fl : Int64} {w : Nat → Int32} (h : wE (bfx fl) (may fl 0 0 0 false) (may fl 0 0 0 true) w (64 - 64)) : zT (bfx fl) w := by
  intro f m hf hs
  have hm := sub_lt hs (wf_lt (bfx fl) f)
  rw [h f m (by omega) hf hm]
  have g : gOK (bfx fl) (fun _ => false) (fun _ => false) (fun _ => false) := by
    refine ⟨fun _ z => absurd z Bool.false_ne_true, fun _ z => absurd z Bool.false_ne_true, fun g => ?_, fun _ z => absurd z Bool.false_ne_true⟩
    unfold covN
    rw [Bool.and_false, Bool.and_false]
    rfl
  have k := dp_eq (on := bfx fl) (A := fun _ => false) (C := fun _ => false) (T := fun _ => false) (a := may fl 0 0 0 false) (b := may fl 0 0 0 true) (fr := bfx fl) g (fun g => by rw [Bool.not_false, Bool.and_true]) (fun g hg => bf_hi fl hg) (fun f => by rw [may_f, bf_0, bf_0]) (fun f => by rw [may_t, bf_0, bf_0]) (64 - f) f m (by omega) ⟨hm, fun i hi => ⟨fun ho => ?_, fun z => absurd z Bool.false_ne_true⟩⟩
  · rw [k, sub_eq hs, zWn_eq]
  · cases y : m.testBit i with
    | false => rfl
    | true =>
      have e := hs i y
      rw [wf_bit, ho, Bool.and_false] at e
      exact e.symm
theorem zT_rd {on : Nat → Bool} {w : Nat → Int32} {f m : Nat} (h : zT on w) (hf : f ≤ 64) (hs : sub m (wf on f)) : w ((256 : Int32) * nI f + nI m).toNatClampNeg = nI (zWn on (64 - f) m) := by
  have hm := sub_lt hs (wf_lt on f)
  rw [wix, nI_clamp (wx_lt (by omega) hm)]
  exact h f m hf hs
theorem may_0 {fl j19 j20 j21 : Int64} {f : Nat} (hf : f < 64) (z : j19 = 0 ∧ j20 = 0 ∧ j21 = 0) : m_may fl j21 j19 j20 (nI f) false = (decide (f % 8 < 7) && (bfx fl f && bfx fl (f + 1))) := by
  obtain ⟨rfl, rfl, rfl⟩ := z
  have e := may_f (fl := fl) (tk := 0) (al := 0) (ac := 0) f
  rw [bf_0, bf_0] at e
  unfold may at e
  rw [decide_eq_true hf, Bool.true_and] at e
  rw [e]
  simp
theorem zor0 (x : Int64) : x ||| 0 = x := bx_ext (fun j _ => by rw [bf_or, bf_0, Bool.or_false])
section ZRW
variable {fl j19 j20 j21 : Int64} {x i l mk : Nat} {a c : Int64}
theorem zr_o (hi : i < 64) (h : m_hasBit fl (nI i) = true) : bfx fl i = true := by rw [← hb_bf fl hi]; exact h
theorem zr_on (hi : i < 64) (h : m_hasBit fl (nI i) = false) : bfx fl i = false := by rw [← hb_bf fl hi]; exact h
theorem zr_1 (hi : i < 64) (z : j19 = 0 ∧ j20 = 0 ∧ j21 = 0) (h : m_may fl j21 j19 j20 (nI i) false = true) : i % 8 < 7 ∧ bfx fl (i + 1) = true := by
  rw [may_0 hi z, Bool.and_eq_true, Bool.and_eq_true, decide_eq_true_iff] at h
  exact ⟨h.1, h.2.2⟩
theorem zr_w0 (hi : i < 64) (z : j19 = 0 ∧ j20 = 0 ∧ j21 = 0) (ho : bfx fl i = true) (h : m_may fl j21 j19 j20 (nI i) false = false) : zAw (bfx fl) i mk = 0 := by
  refine if_neg (fun y => ?_)
  rw [may_0 hi z, decide_eq_true y.1, y.2.1, ho] at h
  exact absurd h (by decide)
theorem zr_w1 (hm : mk < 256) (h : ¬ nI mk &&& 2 = 0) : zAw (bfx fl) i mk = 0 := if_neg (fun y => mk2_1 ⟨mk, hm⟩ h y.2.2)
theorem zr_w2 (hi : i < 64) (hm : mk < 256) (z : j19 = 0 ∧ j20 = 0 ∧ j21 = 0) (h : m_may fl j21 j19 j20 (nI i) false = true) (h2 : nI mk &&& 2 = 0) : zWn (bfx fl) (64 - (i + 1)) (mk / 2 / 2 * 2 + 1) = zAw (bfx fl) i mk := by
  obtain ⟨k1, k2⟩ := zr_1 hi z h
  have e : zAw (bfx fl) i mk = zWn (bfx fl) (63 - i) (mk / 2 ||| 1) := if_pos ⟨k1, k2, mk2_0 ⟨mk, hm⟩ h2⟩
  rw [e, or1_n, show 64 - (i + 1) = 63 - i by omega]
theorem zr_s (hi : i < 64) (z : j19 = 0 ∧ j20 = 0 ∧ j21 = 0) (h : m_may fl j21 j19 j20 (nI i) false = true) (hs : sub mk (wf (bfx fl) i)) : sub (mk / 2 / 2 * 2 + 1) (wf (bfx fl) (i + 1)) := by
  rw [or1_n]
  exact zs_1 hs (zr_1 hi z h).2
variable {on : Nat → Bool}
theorem zra (h : zst on x i = (l, mk, a, c)) (ho : on i = true) (h0 : mk % 2 = 0) {k : Nat} (e : k = zAw on i mk) (hq : l < k) : zst on x (i + 1) = (l, mk / 2 / 2 * 2 + 1, a ||| zBt i, c ||| 0) := by
  rw [zor0]
  exact zst_a h ho h0 (e ▸ hq)
theorem zrc (h : zst on x i = (l, mk, a, c)) (ho : on i = true) (h0 : mk % 2 = 0) {k : Nat} (e : k = zAw on i mk) (hq : ¬ l < k) : zst on x (i + 1) = (l - k, mk / 2 + 128, a ||| 0, c ||| zBt i) := by
  rw [zor0]
  subst e
  exact zst_c h ho h0 hq
theorem zrc0 (h : zst on x i = (l, mk, a, c)) (ho : on i = true) (h0 : mk % 2 = 0) (e : zAw on i mk = 0) : zst on x (i + 1) = (l, mk / 2 + 128, a ||| 0, c ||| zBt i) := by
  have k := zrc h ho h0 e.symm (Nat.not_lt_zero l)
  rw [Nat.sub_zero] at k
  exact k
end ZRW
theorem nn_nI {l : Nat} (h : l < 2 ^ 31) : (0 : Int32) ≤ nI l := (nI_leI (a := 0) (b := l) (by decide) h).mpr (Nat.zero_le _)
theorem zLy_o {fl : Int64} {x i l mk : Nat} {a c : Int64} (h : zst (bfx fl) x i = (l, mk, a, c)) (e : i = 64) : (a, c) = zLy fl x := by
  subst e
  unfold zLy
  rw [h]
/-! ===== turns ===== -/
def zhw (al ac : Int64) (f : Nat) : Int32 := if f % 8 < 7 ∧ f < 55 then (if bfx al f = true ∧ bfx al (f + 8) = true then 1 else if bfx ac f = true ∧ bfx ac (f + 1) = true then 2 else 0) else 0
def zfl (hi : Bool) (f : Nat) (p : Int64 × Int64) : Bool := !decide (zhw p.1 p.2 f = 0) && !(m_isDown (nI f) (zhw p.1 p.2 f) == hi)
def ztn (hi : Bool) (f : Nat) (p : Int64 × Int64) : Int64 × Int64 := if zfl hi f p = true then (p.1 ^^^ m_alongAt (nI f), p.2 ^^^ m_acrossAt (nI f)) else p
def zsw (hi : Bool) : Nat → Int64 × Int64 → Int64 × Int64
  | 0, p => p
  | f + 1, p => ztn hi f (zsw hi f p)
def zmv (hi : Bool) : Nat → Int64 × Int64 → Bool
  | 0, _ => false
  | f + 1, p => zmv hi f p || zfl hi f (zsw hi f p)
def zit (hi : Bool) : Nat → Int64 × Int64 → Int64 × Int64
  | 0, p => p
  | k + 1, p => zsw hi 64 (zit hi k p)
theorem zmv_f {hi : Bool} {p : Int64 × Int64} : ∀ n, zmv hi n p = false → zsw hi n p = p
  | 0, _ => rfl
  | n + 1, h => by
    have h2 : (zmv hi n p || zfl hi n (zsw hi n p)) = false := h
    rw [Bool.or_eq_false_iff] at h2
    show ztn hi n (zsw hi n p) = p
    unfold ztn
    rw [if_neg (by rw [h2.2]; decide)]
    exact zmv_f n h2.1
theorem zfl_hi {hi : Bool} {p : Int64 × Int64} {f : Nat} (h : 55 ≤ f) : zfl hi f p = false := by
  have e : zhw p.1 p.2 f = 0 := if_neg (fun z => absurd z.2 (by omega))
  unfold zfl
  rw [e]
  rfl
theorem zsw_hi {hi : Bool} {p : Int64 × Int64} : ∀ n, zsw hi (55 + n) p = zsw hi 55 p
  | 0 => rfl
  | n + 1 => by
    show ztn hi (55 + n) (zsw hi (55 + n) p) = _
    unfold ztn
    rw [if_neg (by rw [zfl_hi (Nat.le_add_right 55 n)]; decide)]
    exact zsw_hi n
theorem zsw_55 {hi : Bool} {p : Int64 × Int64} : zsw hi 64 p = zsw hi 55 p := zsw_hi 9
theorem zit_fix {hi : Bool} {p : Int64 × Int64} {k : Nat} (h : zsw hi 64 (zit hi k p) = zit hi k p) : ∀ j, zit hi (k + j) p = zit hi k p
  | 0 => rfl
  | j + 1 => by
    show zsw hi 64 (zit hi (k + j) p) = _
    rw [zit_fix h j]
    exact h
theorem zit_k {hi : Bool} {p q : Int64 × Int64} {k : Nat} (e : q = zit hi k p) (h : zsw hi 64 q = q) (hk : k ≤ 1000) : q = zit hi 1000 p := by
  subst e
  have z := zit_fix h (1000 - k)
  rw [show k + (1000 - k) = 1000 by omega] at z
  exact z.symm
theorem ztn_y {hi : Bool} {f : Nat} {p : Int64 × Int64} (h : zfl hi f p = true) : ztn hi f p = (p.1 ^^^ m_alongAt (nI f), p.2 ^^^ m_acrossAt (nI f)) := if_pos h
theorem ztn_n {hi : Bool} {f : Nat} {p : Int64 × Int64} (h : zfl hi f p = false) : ztn hi f p = p := if_neg (by rw [h]; decide)
/-! a turn leaves a laying -/
section ZTL
variable {on A C : Nat → Bool} {f : Nat}
theorem fB_pl {g : Nat} (h : 1 ≤ g → f ≠ g - 1 ∧ f + 8 ≠ g - 1) : (decide (1 ≤ g) && fB A f (f + 8) (g - 1)) = (decide (1 ≤ g) && A (g - 1)) := by
  by_cases q : 1 ≤ g
  · rw [fB_n (h q).1 (h q).2]
  · rw [decide_eq_false q, Bool.false_and, Bool.false_and]
theorem fB_pu {g : Nat} (h : 8 ≤ g → f ≠ g - 8 ∧ f + 1 ≠ g - 8) : (decide (8 ≤ g) && fB C f (f + 1) (g - 8)) = (decide (8 ≤ g) && C (g - 8)) := by
  by_cases q : 8 ≤ g
  · rw [fB_n (h q).1 (h q).2]
  · rw [decide_eq_false q, Bool.false_and, Bool.false_and]
theorem zcov (ha : A (f + 8) = A f) (hc : C f = !A f) (hc1 : C (f + 1) = !A f) (g : Nat) : covN (fB A f (f + 8)) (fB C f (f + 1)) g = covN A C g := by
  unfold covN
  by_cases q0 : g = f
  · subst q0
    rw [fB_1, fB_1, fB_pl (by omega), fB_pu (by omega), hc]
    generalize A g = u
    cases u <;> rfl
  by_cases q1 : g = f + 1
  · subst q1
    rw [fB_n (A := A) (by omega) (by omega), fB_2, fB_pu (by omega), Nat.add_sub_cancel, fB_1, hc1, decide_eq_true (show 1 ≤ f + 1 by omega)]
    generalize A f = u
    cases u <;> simp [bN]
  by_cases q2 : g = f + 8
  · subst q2
    rw [fB_2, fB_n (A := C) (by omega) (by omega), fB_pl (by omega), Nat.add_sub_cancel, fB_1, hc, ha, decide_eq_true (show 8 ≤ f + 8 by omega)]
    generalize A f = u
    cases u <;> simp [bN] <;> omega
  by_cases q3 : g = f + 9
  · subst q3
    rw [fB_n (A := A) (by omega) (by omega), fB_n (A := C) (by omega) (by omega), show f + 9 - 1 = f + 8 by omega, show f + 9 - 8 = f + 1 by omega, fB_2, fB_2, hc1, ha, decide_eq_true (show 1 ≤ f + 9 by omega), decide_eq_true (show 8 ≤ f + 9 by omega)]
    generalize A f = u
    cases u <;> simp [bN]
  rw [fB_n (A := A) (by omega) (by omega), fB_n (A := C) (by omega) (by omega), fB_pl (by omega), fB_pu (by omega)]
theorem zl_t (h : LY on A C) (h7 : f % 8 < 7) (hf : f < 55) (ha : A (f + 8) = A f) (hc : C f = !A f) (hc1 : C (f + 1) = !A f) : LY on (fB A f (f + 8)) (fB C f (f + 1)) := by
  refine ⟨fun g q => ?_, fun g q => ?_, fun g => by rw [zcov ha hc hc1]; exact h.2.2.1 g, fun g q => q⟩
  · by_cases q0 : f = g
    · subst q0; exact h7
    · by_cases q1 : f + 8 = g
      · subst q1; omega
      · rw [fB_n q0 q1] at q
        exact h.1 g q
  · by_cases q0 : f = g
    · subst q0; omega
    · by_cases q1 : f + 1 = g
      · subst q1; omega
      · rw [fB_n q0 q1] at q
        exact h.2.1 g q
theorem zl_1 (h : LY on A C) (h7 : f % 8 < 7) (hf : f < 55) (a1 : A f = true) (a2 : A (f + 8) = true) : LY on (fB A f (f + 8)) (fB C f (f + 1)) := by
  refine zl_t h h7 hf (by rw [a1, a2]) (by rw [(g_A h a1).2.1, a1]; rfl) ?_
  have e := h.2.2.1 (f + 1)
  unfold covN at e
  obtain ⟨-, x1, -, -⟩ := pl3 e (bN_le _) (by rw [Nat.add_sub_cancel, a1, decide_eq_true (show 1 ≤ f + 1 by omega)]; rfl)
  rw [bN_0 x1, a1]
  rfl
theorem zl_2 (h : LY on A C) (h7 : f % 8 < 7) (hf : f < 55) (c1 : C f = true) (c2 : C (f + 1) = true) : LY on (fB A f (f + 8)) (fB C f (f + 1)) := by
  have a0 := (g_C h c1).2.1
  refine zl_t h h7 hf ?_ (by rw [c1, a0]; rfl) (by rw [c2, a0]; rfl)
  have e := h.2.2.1 (f + 8)
  unfold covN at e
  obtain ⟨x1, -, -, -⟩ := pl4 e (bN_le _) (by rw [Nat.add_sub_cancel, c1, decide_eq_true (show 8 ≤ f + 8 by omega)]; rfl)
  rw [bN_0 x1, a0]
theorem ly_dj (h : LY on A C) : DJ A C := by
  intro g hg
  have e := h.2.2.1 g
  unfold covN at e
  unfold pl pu
  have hp : (decide (0 < g % 8) && A (g - 1)) = true → (decide (1 ≤ g) && A (g - 1)) = true := by
    intro z
    rw [Bool.and_eq_true, decide_eq_true_iff] at z
    rw [decide_eq_true (show 1 ≤ g by omega), z.2]
    rfl
  generalize (decide (0 < g % 8) && A (g - 1)) = p at hp ⊢
  generalize (decide (1 ≤ g) && A (g - 1)) = c at e hp
  generalize (decide (8 ≤ g) && C (g - 8)) = d at e ⊢
  generalize A g = a at e ⊢
  generalize C g = b at e ⊢
  generalize on g = t at e
  cases a <;> cases b <;> cases c <;> cases d <;> cases p <;> cases t <;> simp_all [bN, am1]
end ZTL
theorem zhw_c {al ac : Int64} {f : Nat} (h : ¬ zhw al ac f = 0) : (f % 8 < 7 ∧ f < 55) ∧ ((bfx al f = true ∧ bfx al (f + 8) = true) ∨ (bfx ac f = true ∧ bfx ac (f + 1) = true)) := by
  unfold zhw at h
  by_cases c : f % 8 < 7 ∧ f < 55
  · refine ⟨c, ?_⟩
    rw [if_pos c] at h
    by_cases c1 : bfx al f = true ∧ bfx al (f + 8) = true
    · exact Or.inl c1
    · rw [if_neg c1] at h
      by_cases c2 : bfx ac f = true ∧ bfx ac (f + 1) = true
      · exact Or.inr c2
      · rw [if_neg c2] at h
        exact absurd rfl h
  · rw [if_neg c] at h
    exact absurd rfl h
theorem zx_LY {on : Nat → Bool} {al ac : Int64} {f : Nat} (h : LY on (bfx al) (bfx ac)) (q : ¬ zhw al ac f = 0) : LY on (bfx (al ^^^ m_alongAt (nI f))) (bfx (ac ^^^ m_acrossAt (nI f))) := by
  obtain ⟨c, d⟩ := zhw_c q
  have e1 : bfx (al ^^^ m_alongAt (nI f)) = fB (bfx al) f (f + 8) := bf_al al (by omega)
  have e2 : bfx (ac ^^^ m_acrossAt (nI f)) = fB (bfx ac) f (f + 1) := bf_ac ac (by omega)
  rw [e1, e2]
  rcases d with d | d
  · exact zl_1 h c.1 c.2 d.1 d.2
  · exact zl_2 h c.1 c.2 d.1 d.2
theorem zfl_0 {hi : Bool} {f : Nat} {p : Int64 × Int64} (h : zfl hi f p = true) : ¬ zhw p.1 p.2 f = 0 := by
  unfold zfl at h
  rw [Bool.and_eq_true, Bool.not_eq_true', decide_eq_false_iff_not] at h
  exact h.1
theorem ztn_LY {on : Nat → Bool} {hi : Bool} {f : Nat} {p : Int64 × Int64} (h : LY on (bfx p.1) (bfx p.2)) : LY on (bfx (ztn hi f p).1) (bfx (ztn hi f p).2) := by
  cases q : zfl hi f p with
  | false => rw [ztn_n q]; exact h
  | true => rw [ztn_y q]; exact zx_LY h (zfl_0 q)
theorem zsw_LY {on : Nat → Bool} {hi : Bool} {p : Int64 × Int64} (h : LY on (bfx p.1) (bfx p.2)) : ∀ n, LY on (bfx (zsw hi n p).1) (bfx (zsw hi n p).2)
  | 0 => h
  | n + 1 => ztn_LY (zsw_LY h n)
theorem zit_LY {on : Nat → Bool} {hi : Bool} {p : Int64 × Int64} (h : LY on (bfx p.1) (bfx p.2)) : ∀ k, LY on (bfx (zit hi k p).1) (bfx (zit hi k p).2)
  | 0 => h
  | k + 1 => zsw_LY (zit_LY h k) 64
theorem wt_8 (hi : Bool) (g : Nat) (b : Bool) : wt hi g b ≤ 8 := by
  unfold wt
  split <;> omega
theorem ps_8 (hi : Bool) (B : Nat → Bool) : ∀ n, ps hi B n ≤ 8 * n
  | 0 => Nat.le_refl _
  | n + 1 => by
    have := ps_8 hi B n
    have := wt_8 hi n (B n)
    show ps hi B n + wt hi n (B n) ≤ 8 * (n + 1)
    omega
/-! the reference's turnAt -/
section ZTA
variable {al ac : Int64} {f : Nat}
theorem za_0 (h : (6 : Int32) < nI f - nI f / 8 * 8) (hf : f < 64) : (0 : Int32) = zhw al ac f := by
  refine (if_neg (fun z => ?_)).symm
  have k : ∀ g : Fin 64, (6 : Int32) < nI g.val - nI g.val / 8 * 8 → ¬ g.val % 8 < 7 := by decide +kernel
  exact k ⟨f, hf⟩ h z.1
theorem za_1 (h : ¬ nI f / 8 ≤ 6) (hf : f < 64) : (0 : Int32) = zhw al ac f := by
  refine (if_neg (fun z => ?_)).symm
  have k : ∀ g : Fin 64, ¬ nI g.val / 8 ≤ 6 → ¬ g.val < 55 := by decide +kernel
  exact k ⟨f, hf⟩ h z.2
theorem za_c (hf : f < 64) (h1 : ¬ (6 : Int32) < nI f - nI f / 8 * 8) (h2 : nI f / 8 ≤ 6) : f % 8 < 7 ∧ f < 55 := ta_t ⟨f, hf⟩ h1 h2
theorem za_2 (hf : f < 64) (h1 : ¬ (6 : Int32) < nI f - nI f / 8 * 8) (h2 : nI f / 8 ≤ 6) (a1 : m_hasBit al (nI f) = true) (a2 : m_hasBit al (nI f + 8) = true) : (1 : Int32) = zhw al ac f := by
  have c := za_c hf h1 h2
  rw [hb_bf al hf] at a1
  rw [show (8 : Int32) = nI 8 from rfl, nI_add, hb_bf al (by omega)] at a2
  unfold zhw
  rw [if_pos c, if_pos ⟨a1, a2⟩]
theorem za_n1 (hf : f < 64) (a1 : m_hasBit al (nI f) = false) : ¬ (bfx al f = true ∧ bfx al (f + 8) = true) := by
  rw [hb_bf al hf] at a1
  exact fun z => absurd (z.1.symm.trans a1) (by decide)
theorem za_n2 (c : f % 8 < 7 ∧ f < 55) (a2 : m_hasBit al (nI f + 8) = false) : ¬ (bfx al f = true ∧ bfx al (f + 8) = true) := by
  rw [show (8 : Int32) = nI 8 from rfl, nI_add, hb_bf al (by omega)] at a2
  exact fun z => absurd (z.2.symm.trans a2) (by decide)
theorem za_m1 (hf : f < 64) (a1 : m_hasBit ac (nI f) = false) : ¬ (bfx ac f = true ∧ bfx ac (f + 1) = true) := by
  rw [hb_bf ac hf] at a1
  exact fun z => absurd (z.1.symm.trans a1) (by decide)
theorem za_m2 (c : f % 8 < 7 ∧ f < 55) (a2 : m_hasBit ac (nI f + 1) = false) : ¬ (bfx ac f = true ∧ bfx ac (f + 1) = true) := by
  rw [nI_1, hb_bf ac (by omega)] at a2
  exact fun z => absurd (z.2.symm.trans a2) (by decide)
theorem za_3 (c : f % 8 < 7 ∧ f < 55) (n : ¬ (bfx al f = true ∧ bfx al (f + 8) = true)) (a1 : m_hasBit ac (nI f) = true) (a2 : m_hasBit ac (nI f + 1) = true) : (2 : Int32) = zhw al ac f := by
  rw [hb_bf ac (by omega)] at a1
  rw [nI_1, hb_bf ac (by omega)] at a2
  unfold zhw
  rw [if_pos c, if_neg n, if_pos ⟨a1, a2⟩]
theorem za_4 (n : ¬ (bfx al f = true ∧ bfx al (f + 8) = true)) (m : ¬ (bfx ac f = true ∧ bfx ac (f + 1) = true)) : (0 : Int32) = zhw al ac f := by
  unfold zhw
  rw [if_neg n, if_neg m, ite_self]
theorem za_x0 {j : Int64} (hj : j = 0) (hf : f < 64) (h : m_hasBit j (nI f) = true) : False := by
  subst hj
  rw [hb_bf 0 hf, bf_0] at h
  exact absurd h (by decide)
theorem za_x8 {j : Int64} (hj : j = 0) (c : f % 8 < 7 ∧ f < 55) (h : m_hasBit j (nI f + 8) = true) : False := by
  rw [show (8 : Int32) = nI 8 from rfl, nI_add] at h
  exact za_x0 hj (by omega) h
theorem za_x1 {j : Int64} (hj : j = 0) (c : f % 8 < 7 ∧ f < 55) (h : m_hasBit j (nI f + 1) = true) : False := by
  rw [nI_1] at h
  exact za_x0 hj (by omega) h
end ZTA
/-! the reference's extreme -/
theorem bI_neb {a b : Bool} (h : ¬ bI a = bI b) : (a == b) = false := by
  cases a <;> cases b <;> first | rfl | exact absurd rfl h
theorem bI_eqb {a b : Bool} (h : bI a = bI b) : (a == b) = true := by
  cases a <;> cases b <;> first | rfl | exact absurd h (by decide)
theorem zhw_3 (al ac : Int64) (f : Nat) : zhw al ac f = 0 ∨ zhw al ac f = 1 ∨ zhw al ac f = 2 := by
  unfold zhw
  split
  · split
    · exact Or.inr (Or.inl rfl)
    · split
      · exact Or.inr (Or.inr rfl)
      · exact Or.inl rfl
  · exact Or.inl rfl
section ZEX
variable {hi : Bool} {f : Nat} {al ac : Int64} {r : Int32}
theorem ze_y (e : r = zhw al ac f) (h : ¬ r ≤ 0) (h2 : ¬ bI (m_isDown (nI f) r) = bI hi) : zfl hi f (al, ac) = true := by
  unfold zfl
  dsimp only
  rw [← e, bI_neb h2, decide_eq_false (fun z => h (by rw [z]; decide))]
  rfl
theorem ze_n1 (e : r = zhw al ac f) (h : r ≤ 0) : zfl hi f (al, ac) = false := by
  unfold zfl
  dsimp only
  have e0 : zhw al ac f = 0 := by
    rcases zhw_3 al ac f with z | z | z
    · exact z
    · rw [e, z] at h; exact absurd h (by decide)
    · rw [e, z] at h; exact absurd h (by decide)
  rw [e0]
  rfl
theorem ze_n2 (e : r = zhw al ac f) (h2 : bI (m_isDown (nI f) r) = bI hi) : zfl hi f (al, ac) = false := by
  unfold zfl
  dsimp only
  rw [← e, bI_eqb h2, Bool.not_true, Bool.and_false]
variable {p q : Int64 × Int64} {v : Bool}
theorem zs_y (h : (al, ac) = zsw hi f p) (q : zfl hi f (al, ac) = true) : (al ^^^ m_alongAt (nI f), ac ^^^ m_acrossAt (nI f)) = zsw hi (f + 1) p := by
  show _ = ztn hi f (zsw hi f p)
  rw [← h, ztn_y q]
theorem zs_n (h : (al, ac) = zsw hi f p) (q : zfl hi f (al, ac) = false) : (al, ac) = zsw hi (f + 1) p := by
  show _ = ztn hi f (zsw hi f p)
  rw [← h, ztn_n q]
theorem zv_y (h : (al, ac) = zsw hi f p) (q : zfl hi f (al, ac) = true) : true = zmv hi (f + 1) p := by
  show _ = (zmv hi f p || zfl hi f (zsw hi f p))
  rw [← h, q, Bool.or_true]
theorem zv_n (h : (al, ac) = zsw hi f p) (q : zfl hi f (al, ac) = false) (e : v = zmv hi f p) : v = zmv hi (f + 1) p := by
  show _ = (zmv hi f p || zfl hi f (zsw hi f p))
  rw [← h, q, Bool.or_false]
  exact e
theorem zf_e {al2 ac2 : Int64} (h : (al2, ac2) = zsw hi f (al, ac)) (e : f = 64) (hv : v = zmv hi f (al, ac)) : v = false → zsw hi 64 (al2, ac2) = (al2, ac2) := by
  intro z
  subst e
  rw [hv] at z
  have k := zmv_f 64 z
  rw [h, k, k]
theorem zf_e5 {al2 ac2 : Int64} (h : (al2, ac2) = zsw hi f (al, ac)) (e : f = 55) (hv : v = zmv hi f (al, ac)) : v = false → zsw hi 64 (al2, ac2) = (al2, ac2) := by
  intro z
  subst e
  rw [hv] at z
  have k := zmv_f 55 z
  rw [h, k, zsw_55, k]
theorem zi_s {k : Nat} {al2 ac2 : Int64} {p0 : Int64 × Int64} (h0 : (al, ac) = zit hi k p0) (h : (al2, ac2) = zsw hi f (al, ac)) (e : f = 64) : (al2, ac2) = zit hi (k + 1) p0 := by
  show _ = zsw hi 64 (zit hi k p0)
  subst e
  rw [← h0, h]
theorem zi_s5 {k : Nat} {al2 ac2 : Int64} {p0 : Int64 × Int64} (h0 : (al, ac) = zit hi k p0) (h : (al2, ac2) = zsw hi f (al, ac)) (e : f = 55) : (al2, ac2) = zit hi (k + 1) p0 := by
  show _ = zsw hi 64 (zit hi k p0)
  subst e
  rw [← h0, h, zsw_55]
end ZEX
theorem zk_0 {hi : Bool} {B : Nat → Bool} : 0 + ps hi B 64 ≤ 512 + (1 - bN true) := by
  have := ps_8 hi B 64
  rw [show bN true = 1 from rfl]
  omega
theorem zk_s {k a b : Nat} {v v2 : Bool} (h : k + a ≤ 512 + (1 - bN v)) (hv : v = true) (hc : b + bN v2 ≤ a) : k + 1 + b ≤ 512 + (1 - bN v2) := by
  subst hv
  rw [show bN true = 1 from rfl] at h
  cases v2 with
  | false => rw [show bN false = 0 from rfl] at hc ⊢; omega
  | true => rw [show bN true = 1 from rfl] at hc ⊢; omega
theorem zk_e {k a : Nat} {v : Bool} (h : k + a ≤ 512 + (1 - bN v)) : k ≤ 1000 := by omega
noncomputable def aExt (fl : Int64) (S : List Int32) (hi : Bool) : Int32 := if aWh fl S = true then (if aCnt fl S = 0 then (-100006) else nI (znb (bfx fl) (bfx (zit hi 1000 (zLy fl 0)).2) 64).1) else (-100004)
section ZAN
variable {fl : Int64} {S : List Int32} {hi : Bool}
theorem ax_0 (h : aWh fl S = false) : (-100004 : Int32) = aExt fl S hi := by rw [aExt, h]; rfl
theorem ax_1 (h : aWh fl S = true) (h2 : aCnt fl S = 0) : (-100006 : Int32) = aExt fl S hi := by rw [aExt, if_pos h, if_pos h2]
theorem ax_2 (h : aWh fl S = true) (h2 : ¬ aCnt fl S = 0) {al ac : Int64} (e : (al, ac) = zit hi 1000 (zLy fl 0)) : nI (znb (bfx fl) (bfx ac) 64).1 = aExt fl S hi := by
  rw [aExt, if_pos h, if_neg h2, ← e]
theorem wh_ng (h : aWh fl S = true) : S.any m_isG = false := by
  by_cases z : whP fl S
  · exact z.1
  · rw [wh_f z] at h
    exact absurd h (by decide)
theorem ng_lA (h : S.any m_isG = false) (j : Nat) : lA S j = false ∧ lX S j = false ∧ lTk S j = false := by
  have k := any_false h
  refine ⟨?_, ?_, ?_⟩
  · unfold lA
    rw [List.any_eq_false]
    intro c hc
    rw [k c hc, Bool.false_and]
    decide
  · unfold lX
    rw [List.any_eq_false]
    intro c hc
    rw [k c hc, Bool.false_and]
    decide
  · unfold lTk
    rw [List.any_eq_false]
    intro c hc
    rw [k c hc, Bool.false_and]
    decide
theorem ng_or (h : S.any m_isG = false) : gOr 0 S = 0 := bf_zero.mpr (fun j _ => by rw [gOr_bf, bf_0, (ng_lA h j).2.2]; rfl)
theorem ng_st (h : S.any m_isG = false) (b : Bool) : gSt b 0 S = 0 := bf_zero.mpr (fun j _ => by rw [gSt_bf, bf_0, (ng_lA h j).1, (ng_lA h j).2.1]; cases b <;> rfl)
theorem ng_and (x : Int64) (h : S.any m_isG = false) : x &&& (gOr 0 S ^^^ (-1)) = x := bx_ext (fun j _ => by rw [ng_or h, bf_andn, bf_0]; simp)
theorem ng_cnt (h : S.any m_isG = false) : aCnt fl S = nI (zWn (bfx fl) 64 0) := by
  unfold aCnt
  rw [ng_and fl h, zWn_eq]
theorem ng_pos (h : S.any m_isG = false) (h2 : ¬ aCnt fl S = 0) : 0 < zWn (bfx fl) 64 0 := by
  rcases Nat.eq_zero_or_pos (zWn (bfx fl) 64 0) with z | z
  · rw [ng_cnt h, z] at h2
    exact absurd rfl h2
  · exact z
theorem ng_g {R1 : Nat → Int32} {n : Nat} (hS : S = eL R1 n) (h : S.any m_isG = false) {x19 x20 x21 : Int64} (e : x19 = gA R1 n ∧ x20 = gC R1 n ∧ x21 = gTk R1 n) : x19 = 0 ∧ x20 = 0 ∧ x21 = 0 := by
  obtain ⟨rfl, rfl, rfl⟩ := e
  refine ⟨bf_zero.mpr (fun j _ => ?_), bf_zero.mpr (fun j _ => ?_), bf_zero.mpr (fun j _ => ?_)⟩
  · rw [gA_bf, ← hS, (ng_lA h j).1]
  · rw [gC_bf, ← hS, (ng_lA h j).2.1]
  · rw [gT_bf, ← hS, (ng_lA h j).2.2]
end ZAN
theorem zT_use {J0 fl : Int64} {S : List Int32} {R1 w : Nat → Int32} {n k : Nat} {x19 x20 x21 : Int64} (eJ : J0 = fl) (hS : S = eL R1 n) (hk : k = n) (hg : S.any m_isG = false) (e : x19 = gA R1 k ∧ x20 = gC R1 k ∧ x21 = gTk R1 k) (hw : wE (bfx J0) (may J0 x21 x19 x20 false) (may J0 x21 x19 x20 true) w (64 - 64)) : (x19 = 0 ∧ x20 = 0 ∧ x21 = 0) ∧ zT (bfx J0) w := by
  subst hk
  have z := ng_g hS hg e
  refine ⟨z, ?_⟩
  obtain ⟨rfl, rfl, rfl⟩ := z
  exact zT_of hw
/-! the class's turner -/
theorem zl_cor : ∀ f : Fin 64, g_isCorner (nI f.val) = (decide (f.val % 8 < 7) && decide (f.val < 55)) := by decide +kernel
theorem dk_bit : ∀ f : Fin 64, g_holds (-6172840429334713771) (nI f.val) = dN f.val := by decide +kernel
theorem two_al : ∀ f : Fin 56, uN ((1 : Int64) <<< ((nI f.val).toInt64 &&& 63) ||| (1 : Int64) <<< ((nI f.val + 8).toInt64 &&& 63)) = 2 ^ f.val ||| 2 ^ (f.val + 8) := by decide +kernel
theorem two_ac : ∀ f : Fin 63, uN ((1 : Int64) <<< ((nI f.val).toInt64 &&& 63) ||| (1 : Int64) <<< ((nI f.val + 1).toInt64 &&& 63)) = 2 ^ f.val ||| 2 ^ (f.val + 1) := by decide +kernel
theorem ac_3 : ∀ f : Fin 56, (1 : Int64) <<< ((nI f.val).toInt64 &&& 63) ||| (1 : Int64) <<< ((nI f.val + 1).toInt64 &&& 63) = m_acrossAt (nI f.val) := by decide +kernel
theorem both_iff {x u : Int64} {f d : Nat} (hd : f + d < 64) (e : uN u = 2 ^ f ||| 2 ^ (f + d)) : (x &&& u = u) ↔ (bfx x f = true ∧ bfx x (f + d) = true) := by
  have b : ∀ j, bfx u j = (decide (f = j) || decide (f + d = j)) := fun j => by
    unfold bfx
    rw [e, Nat.testBit_or, Nat.testBit_two_pow, Nat.testBit_two_pow]
  constructor
  · intro h
    have k : ∀ j, bfx u j = true → bfx x j = true := fun j hj => by
      rw [← h, bf_and, Bool.and_eq_true] at hj
      exact hj.1
    exact ⟨k f (by rw [b, decide_eq_true rfl, Bool.true_or]), k (f + d) (by rw [b, decide_eq_true (rfl : f + d = f + d), Bool.or_true])⟩
  · intro h
    apply bx_ext
    intro j _
    rw [bf_and, b]
    by_cases q : f = j
    · subst q; rw [h.1, Bool.true_and]
    · by_cases q2 : f + d = j
      · subst q2; rw [h.2, Bool.true_and]
      · rw [decide_eq_false q, decide_eq_false q2, Bool.or_false, Bool.and_false]
section ZLG
variable {al ac : Int64} {f : Nat}
theorem zg_0 (hf : f < 64) (h : g_isCorner (nI f) = false) : (0 : Int32) = zhw al ac f := by
  have e := zl_cor ⟨f, hf⟩
  dsimp only at e
  rw [e, Bool.and_eq_false_iff, decide_eq_false_iff_not, decide_eq_false_iff_not] at h
  exact (if_neg (fun z => h.elim (fun y => y z.1) (fun y => y z.2))).symm
theorem zg_c (hf : f < 64) (h : g_isCorner (nI f) = true) : f % 8 < 7 ∧ f < 55 := by
  have e := zl_cor ⟨f, hf⟩
  dsimp only at e
  rw [e, Bool.and_eq_true, decide_eq_true_iff, decide_eq_true_iff] at h
  exact h
theorem zg_a (c : f % 8 < 7 ∧ f < 55) : (al &&& ((1 : Int64) <<< ((nI f).toInt64 &&& 63) ||| (1 : Int64) <<< ((nI f + 8).toInt64 &&& 63)) = ((1 : Int64) <<< ((nI f).toInt64 &&& 63) ||| (1 : Int64) <<< ((nI f + 8).toInt64 &&& 63))) ↔ (bfx al f = true ∧ bfx al (f + 8) = true) := both_iff (by omega) (two_al ⟨f, by omega⟩)
theorem zg_b (c : f % 8 < 7 ∧ f < 55) : (ac &&& ((1 : Int64) <<< ((nI f).toInt64 &&& 63) ||| (1 : Int64) <<< ((nI f + 1).toInt64 &&& 63)) = ((1 : Int64) <<< ((nI f).toInt64 &&& 63) ||| (1 : Int64) <<< ((nI f + 1).toInt64 &&& 63))) ↔ (bfx ac f = true ∧ bfx ac (f + 1) = true) := both_iff (by omega) (two_ac ⟨f, by omega⟩)
theorem zg_1 (c : f % 8 < 7 ∧ f < 55) (h : al &&& ((1 : Int64) <<< ((nI f).toInt64 &&& 63) ||| (1 : Int64) <<< ((nI f + 8).toInt64 &&& 63)) = ((1 : Int64) <<< ((nI f).toInt64 &&& 63) ||| (1 : Int64) <<< ((nI f + 8).toInt64 &&& 63))) : (1 : Int32) = zhw al ac f := by
  unfold zhw
  rw [if_pos c, if_pos ((zg_a c).mp h)]
theorem zg_2 (c : f % 8 < 7 ∧ f < 55) (n : ¬ al &&& ((1 : Int64) <<< ((nI f).toInt64 &&& 63) ||| (1 : Int64) <<< ((nI f + 8).toInt64 &&& 63)) = ((1 : Int64) <<< ((nI f).toInt64 &&& 63) ||| (1 : Int64) <<< ((nI f + 8).toInt64 &&& 63))) (h : ac &&& ((1 : Int64) <<< ((nI f).toInt64 &&& 63) ||| (1 : Int64) <<< ((nI f + 1).toInt64 &&& 63)) = ((1 : Int64) <<< ((nI f).toInt64 &&& 63) ||| (1 : Int64) <<< ((nI f + 1).toInt64 &&& 63))) : (2 : Int32) = zhw al ac f := by
  unfold zhw
  rw [if_pos c, if_neg (fun z => n ((zg_a c).mpr z)), if_pos ((zg_b c).mp h)]
theorem zg_3 (c : f % 8 < 7 ∧ f < 55) (n : ¬ al &&& ((1 : Int64) <<< ((nI f).toInt64 &&& 63) ||| (1 : Int64) <<< ((nI f + 8).toInt64 &&& 63)) = ((1 : Int64) <<< ((nI f).toInt64 &&& 63) ||| (1 : Int64) <<< ((nI f + 8).toInt64 &&& 63))) (h : ¬ ac &&& ((1 : Int64) <<< ((nI f).toInt64 &&& 63) ||| (1 : Int64) <<< ((nI f + 1).toInt64 &&& 63)) = ((1 : Int64) <<< ((nI f).toInt64 &&& 63) ||| (1 : Int64) <<< ((nI f + 1).toInt64 &&& 63))) : (0 : Int32) = zhw al ac f := za_4 (fun z => n ((zg_a c).mpr z)) (fun z => h ((zg_b c).mpr z))
def zlf (al ac : Int64) (f : Nat) : Int32 := if zhw al ac f = 0 then 0 else if m_isDown (nI f) (zhw al ac f) = true then -4 else 4
theorem zd_dk (hf : f < 64) (r : Int32) : m_isDown (nI f) r = (dN f == decide (r = 1)) := by
  unfold m_isDown
  have e := drk_t ⟨f, hf⟩
  dsimp only at e
  rw [e]
theorem zt_0 (h : zhw al ac f = 0) : (0 : Int32) = zlf al ac f := (if_pos h).symm
theorem zt_d (hf : f < 64) (h : ¬ zhw al ac f = 0) {b : Bool} (hb : b = decide (zhw al ac f = 1)) (q : bI b = bI (g_holds (-6172840429334713771) (nI f))) : (-4 : Int32) = zlf al ac f := by
  unfold zlf
  have e := dk_bit ⟨f, hf⟩
  dsimp only at e
  rw [e] at q
  have k := bI_eqb q
  rw [if_neg h, zd_dk hf, ← hb, if_pos]
  cases b <;> cases z : dN f <;> simp_all
theorem zt_u (hf : f < 64) (h : ¬ zhw al ac f = 0) {b : Bool} (hb : b = decide (zhw al ac f = 1)) (q : ¬ bI b = bI (g_holds (-6172840429334713771) (nI f))) : (4 : Int32) = zlf al ac f := by
  unfold zlf
  have e := dk_bit ⟨f, hf⟩
  dsimp only at e
  rw [e] at q
  have k := bI_neb q
  rw [if_neg h, zd_dk hf, ← hb, if_neg]
  cases b <;> cases z : dN f <;> simp_all
theorem zu_3 (al ac : Int64) (f : Nat) : (zlf al ac f = 0 ∧ zhw al ac f = 0) ∨ (zlf al ac f = -4 ∧ ¬ zhw al ac f = 0 ∧ m_isDown (nI f) (zhw al ac f) = true) ∨ (zlf al ac f = 4 ∧ ¬ zhw al ac f = 0 ∧ m_isDown (nI f) (zhw al ac f) = false) := by
  unfold zlf
  by_cases h : zhw al ac f = 0
  · rw [if_pos h]; exact Or.inl ⟨rfl, h⟩
  · rw [if_neg h]
    cases d : m_isDown (nI f) (zhw al ac f) with
    | true => exact Or.inr (Or.inl ⟨rfl, h, rfl⟩)
    | false => exact Or.inr (Or.inr ⟨rfl, h, rfl⟩)
theorem zu_fl (hi : Bool) : zfl hi f (al, ac) = (if hi = true then decide ((0 : Int32) < zlf al ac f) else decide (zlf al ac f < (0 : Int32))) := by
  unfold zfl
  dsimp only
  rcases zu_3 al ac f with ⟨a, b⟩ | ⟨a, b, c⟩ | ⟨a, b, c⟩
  · rw [a, b]; cases hi <;> rfl
  · rw [a, c, decide_eq_false b]; cases hi <;> rfl
  · rw [a, c, decide_eq_false b]; cases hi <;> rfl
theorem zu_1y {hi : Bool} (h : hi = true) (q : ¬ zlf al ac f ≤ 0) : zfl hi f (al, ac) = true := by rw [zu_fl, if_pos h, decide_eq_true (i32_lt q)]
theorem zu_1n {hi : Bool} (h : hi = true) (q : zlf al ac f ≤ 0) : zfl hi f (al, ac) = false := by rw [zu_fl, if_pos h, decide_eq_false (i32_nlt q)]
theorem zu_0y {hi : Bool} (h : hi = false) (q : ¬ (0 : Int32) ≤ zlf al ac f) : zfl hi f (al, ac) = true := by rw [zu_fl, h, if_neg (by decide), decide_eq_true (i32_lt q)]
theorem zu_0n {hi : Bool} (h : hi = false) (q : (0 : Int32) ≤ zlf al ac f) : zfl hi f (al, ac) = false := by rw [zu_fl, h, if_neg (by decide), decide_eq_false (i32_nlt q)]
end ZLG
def zIn (on : Nat → Bool) (x : Nat) : Prop := x < zWn on 64 0
theorem zst_j {on : Nat → Bool} {x i l mk : Nat} {a c : Int64} (hx : zIn on x) (hi : i < 64) (h : zst on x i = (l, mk, a, c)) : sub mk (wf on i) ∧ mk < 256 ∧ l < 2 ^ 31 := zst_i hx (Nat.le_of_lt hi) h
theorem znb_rc0 {on A C : Nat → Bool} {i n mk : Nat} (hl : LY on A C) (h : znb on C i = (n, mk)) (ho : on i = true) (h0 : mk % 2 = 0) (hA : A i = false) (e : zAw on i mk = 0) : znb on C (i + 1) = (n, mk / 2 + 128) := by
  have k := znb_rc hl h ho h0 hA
  rw [e, Nat.add_zero] at k
  exact k
theorem znb_rck {on A C : Nat → Bool} {i n mk k : Nat} (hl : LY on A C) (h : znb on C i = (n, mk)) (ho : on i = true) (h0 : mk % 2 = 0) (hA : A i = false) (e : k = zAw on i mk) : znb on C (i + 1) = (n + k, mk / 2 + 128) := by
  subst e
  exact znb_rc hl h ho h0 hA
theorem zh_b {x : Int64} {f : Nat} {b : Bool} (hf : f < 64) (h : g_holds x (nI f) = b) : bfx x f = b := by rw [← hol_t x hf]; exact h
theorem zr_b {x : Int64} {f : Nat} {b : Bool} (hf : f < 64) (h : m_hasBit x (nI f) = b) : bfx x f = b := by rw [← hb_bf x hf]; exact h
theorem zw_ly {J0 al ac : Int64} {x : Nat} (h : (al, ac) = zLy J0 x) (hx : zIn (bfx J0) x) : LY (bfx J0) (bfx al) (bfx ac) := by
  have e1 : al = (zLy J0 x).1 := congrArg Prod.fst h
  have e2 : ac = (zLy J0 x).2 := congrArg Prod.snd h
  rw [e1, e2]
  exact zLy_LY hx
theorem ax_3 {J0 fl al ac : Int64} {S : List Int32} {hi : Bool} {k : Nat} (eJ : J0 = fl) (hw : aWh fl S = true) (hn : ¬ aCnt fl S = 0) (hit : (al, ac) = zit hi k (zLy J0 0)) (hf : zsw hi 64 (al, ac) = (al, ac)) (hk : k ≤ 1000) : nI (znb (bfx J0) (bfx ac) 64).1 = aExt fl S hi := by
  subst eJ
  exact ax_2 hw hn (zit_k hit hf hk)
theorem zi_1000 {hi : Bool} {r : Nat} {p q : Int64 × Int64} (h : q = zit hi r p) (e : r = 1000) : q = zit hi 1000 p := e ▸ h
theorem zk_tot {fl : Int64} {S : List Int32} {fw : Nat → Int32} (ht : tabF (bfx fl) fw 0) (hg : S.any m_isG = false) : fw (0 : Int32).toNatClampNeg = aCnt fl S := by
  rw [tab_tot ht, ng_cnt hg, zWn_eq]
theorem z_and0 (x : Int64) : x &&& ((0 : Int64) ^^^ (-1)) = x := bx_ext (fun j _ => by rw [bf_andn, bf_0]; simp)
theorem zx_fin {fl w1 w2 w3 w4 : Int64} {hi : Bool} {x : Nat} (h1 : w1 = (zLy fl x).1 &&& ((0 : Int64) ^^^ (-1))) (h2 : w2 = (zLy fl x).2 &&& ((0 : Int64) ^^^ (-1))) (hg : (w3, w4) = zit hi 1000 (w1, w2)) : (w3, w4) = zit hi 1000 (zLy fl x) := by
  rw [z_and0] at h1 h2
  rw [hg, h1, h2]
theorem zx_fly {fl w3 w4 : Int64} {hi : Bool} {x : Nat} (hx : zIn (bfx fl) x) (h : (w3, w4) = zit hi 1000 (zLy fl x)) : LY (bfx fl) (bfx w3) (bfx w4) := by
  have k := zit_LY (hi := hi) (zLy_LY hx) 1000
  rw [← h] at k
  exact k
theorem z_h128 {mk : Nat} (h : mk < 256) : mk / 2 < 128 := by omega
