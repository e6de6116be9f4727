/-! ===== what two layings have in common ===== -/
section HFE
variable {fl al ac : Int64} {f : Nat}
theorem hfe (hH : hHt fl (bfx al) (bfx ac) (zH fl al ac)) (hl : LY (bfx fl) (bfx al) (bfx ac)) (hf : f < 64) (ho : bfx fl f = true) : zG fl al ac (hTL f + 1) - zG fl al ac (hTL f) = hsg (f % 8 + f / 8) * hk3 (decide (8 ≤ f) && bfx ac (f - 8)) ∧ zG fl al ac (hTL f + 10) - zG fl al ac (hTL f + 1) = hsg (f % 8 + f / 8) * hk3 (bfx al f) ∧ zG fl al ac (hTL f + 10) - zG fl al ac (hTL f + 9) = - hsg (f % 8 + f / 8) * hk3 (bfx ac f) ∧ zG fl al ac (hTL f + 9) - zG fl al ac (hTL f) = - hsg (f % 8 + f / 8) * hk3 (decide (1 ≤ f) && bfx al (f - 1)) := by
  have t := tl_m f
  have tl : hTL f < 71 := hTL_lt hf
  refine ⟨?_, ?_, ?_, ?_⟩
  · have e := zG_r hH (p := hTL f) (by omega) (by omega) (by rw [t.1, t.2, eB_f hf, ho, Bool.or_true])
    rw [t.1, t.2, eU_f hf] at e
    exact e
  · have e := zG_d hH (p := hTL f + 1) (by omega) (by rw [show (hTL f + 1) % 9 = f % 8 + 1 by omega, show (hTL f + 1) / 9 = f / 8 by omega, eL_r hf, ho]; rfl)
    rw [show (hTL f + 1) % 9 = f % 8 + 1 by omega, show (hTL f + 1) / 9 = f / 8 by omega, eL_r hf, show f % 8 + 1 + f / 8 = f % 8 + f / 8 + 1 by omega, hsg_s, Int.neg_neg] at e
    exact e
  · have e := zG_r hH (p := hTL f + 9) (by omega) (by omega) (by rw [show (hTL f + 9) % 9 = f % 8 by omega, show (hTL f + 9) / 9 = f / 8 + 1 by omega, eU_d hf, ho]; rfl)
    rw [show (hTL f + 9) % 9 = f % 8 by omega, show (hTL f + 9) / 9 = f / 8 + 1 by omega, eU_d hf, show f % 8 + (f / 8 + 1) = f % 8 + f / 8 + 1 by omega, hsg_s] at e
    exact e
  · have e := zG_d hH (p := hTL f) (by omega) (by rw [t.1, t.2, eB_f hf, ho, Bool.or_true])
    rw [t.1, t.2, eL_f hl.1 hf] at e
    exact e
end HFE
noncomputable def hIn (fl al ac : Int64) (p : Nat) : Int := zG fl al ac p - zG fl al ac (hTL (zF0 fl))
theorem hk_4 {s : Int} (b : Bool) : ∃ k : Int, s - s * hk3 b = 4 * k := by
  cases b with
  | false => exact ⟨0, by rw [show hk3 false = 1 from rfl, Int.mul_one, Int.sub_self]; rfl⟩
  | true => exact ⟨s, by rw [show hk3 true = -3 from rfl]; omega⟩
theorem h_mod {fl al ac bl bc : Int64} (hw : cFr (mOut fl) A10 100 = 1 ∧ aPc fl = 1) (ha : LY (bfx fl) (bfx al) (bfx ac)) (hb : LY (bfx fl) (bfx bl) (bfx bc)) {p : Nat} (hp : p < 81) (h : hpt (bfx fl) p = true) : ∃ k : Int, hIn fl al ac p - hIn fl bl bc p = 4 * k := by
  have Ha := zH_t hw.1 ha
  have Hb := zH_t hw.1 hb
  have f0 := zF0_t hw.2
  have K : hclK (bfx fl) (bfx al) (bfx ac) (fun p => ∃ k : Int, hIn fl al ac p - hIn fl bl bc p = 4 * k) := by
    refine ⟨fun p hp h8 ho => ?_, fun p hp h8 ho => ?_⟩
    · have e1 := zG_ro Ha h8 hp ho
      unfold hrE at ho
      rw [Bool.and_eq_true] at ho
      have e2 := zG_r Hb h8 hp ho.1
      obtain ⟨k, e3⟩ := hk_4 (s := hsg (p % 9 + p / 9)) (onU (bfx bc) (p % 9) (p / 9))
      unfold hIn
      constructor
      · rintro ⟨j, hj⟩
        exact ⟨j + k, by omega⟩
      · rintro ⟨j, hj⟩
        exact ⟨j - k, by omega⟩
    · have e1 := zG_do Ha h8 ho
      unfold hdE at ho
      rw [Bool.and_eq_true] at ho
      have e2 := zG_d Hb h8 ho.1
      obtain ⟨k, e3⟩ := hk_4 (s := - hsg (p % 9 + p / 9)) (onL (bfx bl) (p % 9) (p / 9))
      unfold hIn
      constructor
      · rintro ⟨j, hj⟩
        exact ⟨j + k, by omega⟩
      · rintro ⟨j, hj⟩
        exact ⟨j - k, by omega⟩
  exact hK_pt ha K hw.2 f0.2.1 f0.2.2 ⟨0, by unfold hIn; omega⟩ hp h
def mxI (j : Bool) (x y : Int) : Int := if j then (if x < y then y else x) else (if y < x then y else x)
def e3 (d : Int) : Bool := decide (d = 3 ∨ d = -3)
theorem mx_d {ap aq bp bq s k : Int} {ca cb : Bool} (j : Bool) (hs : s = 1 ∨ s = -1) (ha : aq - ap = s * hk3 ca) (hb : bq - bp = s * hk3 cb) (hk : ap - bp = 4 * k) : mxI j aq bq - mxI j ap bp = s ∨ (mxI j aq bq - mxI j ap bp = -3 * s ∧ (ca = true ∨ cb = true)) := by
  have ha2 : aq = ap + (if ca then -3 * s else s) := by
    cases ca with
    | true => rw [show hk3 true = -3 from rfl] at ha; rw [if_pos rfl]; omega
    | false => rw [show hk3 false = 1 from rfl] at ha; rw [if_neg (by decide)]; omega
  have hb2 : bq = bp + (if cb then -3 * s else s) := by
    cases cb with
    | true => rw [show hk3 true = -3 from rfl] at hb; rw [if_pos rfl]; omega
    | false => rw [show hk3 false = 1 from rfl] at hb; rw [if_neg (by decide)]; omega
  clear ha hb
  unfold mxI
  cases j with
  | true =>
    rw [if_pos rfl, if_pos rfl]
    cases ca with
    | true =>
      rw [if_pos rfl] at ha2
      cases cb with
      | true =>
        rw [if_pos rfl] at hb2
        rcases hs with rfl | rfl <;> (split <;> split <;> first | (left; omega) | (right; exact ⟨by omega, Or.inl rfl⟩))
      | false =>
        rw [if_neg (by decide)] at hb2
        rcases hs with rfl | rfl <;> (split <;> split <;> first | (left; omega) | (right; exact ⟨by omega, Or.inl rfl⟩))
    | false =>
      rw [if_neg (by decide)] at ha2
      cases cb with
      | true =>
        rw [if_pos rfl] at hb2
        rcases hs with rfl | rfl <;> (split <;> split <;> first | (left; omega) | (right; exact ⟨by omega, Or.inr rfl⟩))
      | false =>
        rw [if_neg (by decide)] at hb2
        rcases hs with rfl | rfl <;> (split <;> split <;> (left; omega))
  | false =>
    rw [if_neg Bool.false_ne_true, if_neg Bool.false_ne_true]
    cases ca with
    | true =>
      rw [if_pos rfl] at ha2
      cases cb with
      | true =>
        rw [if_pos rfl] at hb2
        rcases hs with rfl | rfl <;> (split <;> split <;> first | (left; omega) | (right; exact ⟨by omega, Or.inl rfl⟩))
      | false =>
        rw [if_neg (by decide)] at hb2
        rcases hs with rfl | rfl <;> (split <;> split <;> first | (left; omega) | (right; exact ⟨by omega, Or.inl rfl⟩))
    | false =>
      rw [if_neg (by decide)] at ha2
      cases cb with
      | true =>
        rw [if_pos rfl] at hb2
        rcases hs with rfl | rfl <;> (split <;> split <;> first | (left; omega) | (right; exact ⟨by omega, Or.inr rfl⟩))
      | false =>
        rw [if_neg (by decide)] at hb2
        rcases hs with rfl | rfl <;> (split <;> split <;> (left; omega))
theorem e3_t {d : Int} (h : d = 3 ∨ d = -3) : e3 d = true := decide_eq_true h
theorem e3_f {d : Int} (h : d = 1 ∨ d = -1) : e3 d = false := decide_eq_false (by omega)
theorem e3_s {d s : Int} (hs : s = 1 ∨ s = -1) (h : d = s) : e3 d = false := e3_f (by omega)
theorem e3_m {d s : Int} (hs : s = 1 ∨ s = -1) (h : d = -3 * s) : e3 d = true := e3_t (by omega)
/-- of the four sides of a field just one is that of a stone -/
theorem four_m {d1 d2 d3 d4 s : Int} (hs : s = 1 ∨ s = -1) (h1 : d1 = s ∨ d1 = -3 * s) (h2 : d2 = s ∨ d2 = -3 * s) (h3 : d3 = -s ∨ d3 = -3 * -s) (h4 : d4 = -s ∨ d4 = -3 * -s) (e : d1 + d2 = d4 + d3) : bN (e3 d2) + bN (e3 d3) + bN (e3 d4) + bN (e3 d1) = 1 := by
  have hs' : -s = 1 ∨ -s = -1 := by omega
  rcases h1 with h1 | h1 <;> rcases h2 with h2 | h2 <;> rcases h3 with h3 | h3 <;> rcases h4 with h4 | h4 <;> first | (exfalso; omega) | (rw [e3_m hs h1, e3_s hs h2, e3_s hs' h3, e3_s hs' h4]; rfl) | (rw [e3_s hs h1, e3_m hs h2, e3_s hs' h3, e3_s hs' h4]; rfl) | (rw [e3_s hs h1, e3_s hs h2, e3_m hs' h3, e3_s hs' h4]; rfl) | (rw [e3_s hs h1, e3_s hs h2, e3_s hs' h3, e3_m hs' h4]; rfl)
noncomputable def mI (fl : Int64) (p q : Int64 × Int64) (j : Bool) (r : Nat) : Int := mxI j (hIn fl p.1 p.2 r) (hIn fl q.1 q.2 r)
noncomputable def zmL (fl : Int64) (p q : Int64 × Int64) (j : Bool) (f : Nat) : Bool := decide (f % 8 < 7) && (bfx fl f && (bfx fl (f + 1) && e3 (mI fl p q j (hTL f + 10) - mI fl p q j (hTL f + 1))))
noncomputable def zmC (fl : Int64) (p q : Int64 × Int64) (j : Bool) (f : Nat) : Bool := decide (f < 56) && (bfx fl f && (bfx fl (f + 8) && e3 (mI fl p q j (hTL f + 10) - mI fl p q j (hTL f + 9))))
section MLY
variable {fl : Int64} {p q : Int64 × Int64}
theorem m_sides (hw : cFr (mOut fl) A10 100 = 1 ∧ aPc fl = 1) (ha : LY (bfx fl) (bfx p.1) (bfx p.2)) (hb : LY (bfx fl) (bfx q.1) (bfx q.2)) (j : Bool) {f : Nat} (hf : f < 64) (ho : bfx fl f = true) : ∃ s : Int, (s = 1 ∨ s = -1) ∧
    (mI fl p q j (hTL f + 1) - mI fl p q j (hTL f) = s ∨ (mI fl p q j (hTL f + 1) - mI fl p q j (hTL f) = -3 * s ∧ ((decide (8 ≤ f) && bfx p.2 (f - 8)) = true ∨ (decide (8 ≤ f) && bfx q.2 (f - 8)) = true))) ∧
    (mI fl p q j (hTL f + 10) - mI fl p q j (hTL f + 1) = s ∨ (mI fl p q j (hTL f + 10) - mI fl p q j (hTL f + 1) = -3 * s ∧ (bfx p.1 f = true ∨ bfx q.1 f = true))) ∧
    (mI fl p q j (hTL f + 10) - mI fl p q j (hTL f + 9) = -s ∨ (mI fl p q j (hTL f + 10) - mI fl p q j (hTL f + 9) = -3 * -s ∧ (bfx p.2 f = true ∨ bfx q.2 f = true))) ∧
    (mI fl p q j (hTL f + 9) - mI fl p q j (hTL f) = -s ∨ (mI fl p q j (hTL f + 9) - mI fl p q j (hTL f) = -3 * -s ∧ ((decide (1 ≤ f) && bfx p.1 (f - 1)) = true ∨ (decide (1 ≤ f) && bfx q.1 (f - 1)) = true))) := by
  obtain ⟨a1, a2, a3, a4⟩ := hfe (zH_t hw.1 ha) ha hf ho
  obtain ⟨b1, b2, b3, b4⟩ := hfe (zH_t hw.1 hb) hb hf ho
  have hs := hsg_pm (f % 8 + f / 8)
  have hs' : - hsg (f % 8 + f / 8) = 1 ∨ - hsg (f % 8 + f / 8) = -1 := by omega
  have t := tl_m f
  have tl : hTL f < 71 := hTL_lt hf
  have c := hcor ha (K := fun r => hpt (bfx fl) r = true) ⟨fun r _ h8 h => ⟨fun _ => (hrE_pt h8 h).2, fun _ => (hrE_pt h8 h).1⟩, fun r _ _ h => ⟨fun _ => (hdE_pt h).2, fun _ => (hdE_pt h).1⟩⟩ hf ho
  have p0 := hTL_pt (on := bfx fl) hf ho
  obtain ⟨k0, e0⟩ := h_mod hw ha hb (show hTL f < 81 by omega) p0
  obtain ⟨k1, e1⟩ := h_mod hw ha hb (show hTL f + 1 < 81 by omega) (c.1.mp p0)
  obtain ⟨k9, e9⟩ := h_mod hw ha hb (show hTL f + 9 < 81 by omega) (c.2.1.mp p0)
  have sh : ∀ (x y g : Int), (x - g) - (y - g) = x - y := fun x y g => by omega
  refine ⟨hsg (f % 8 + f / 8), hs, ?_, ?_, ?_, ?_⟩
  · exact mx_d j hs (by unfold hIn; rw [sh]; exact a1) (by unfold hIn; rw [sh]; exact b1) e0
  · exact mx_d j hs (by unfold hIn; rw [sh]; exact a2) (by unfold hIn; rw [sh]; exact b2) e1
  · exact mx_d j hs' (by unfold hIn; rw [sh]; exact a3) (by unfold hIn; rw [sh]; exact b3) e9
  · exact mx_d j hs' (by unfold hIn; rw [sh]; exact a4) (by unfold hIn; rw [sh]; exact b4) e0
theorem m_LY (hw : cFr (mOut fl) A10 100 = 1 ∧ aPc fl = 1) (ha : LY (bfx fl) (bfx p.1) (bfx p.2)) (hb : LY (bfx fl) (bfx q.1) (bfx q.2)) (j : Bool) : LY (bfx fl) (zmL fl p q j) (zmC fl p q j) := by
  refine ⟨fun f h => ?_, fun f h => ?_, fun f => ?_, fun _ h => h⟩
  · unfold zmL at h
    rw [Bool.and_eq_true, decide_eq_true_iff] at h
    exact h.1
  · unfold zmC at h
    rw [Bool.and_eq_true, decide_eq_true_iff] at h
    exact h.1
  · cases ho : bfx fl f with
    | false =>
      have c1 : zmL fl p q j f = false := by unfold zmL; rw [ho, Bool.false_and, Bool.and_false]
      have c2 : zmC fl p q j f = false := by unfold zmC; rw [ho, Bool.false_and, Bool.and_false]
      have c3 : (decide (1 ≤ f) && zmL fl p q j (f - 1)) = false := by
        by_cases z : 1 ≤ f
        · unfold zmL; rw [Nat.sub_add_cancel z, ho, Bool.false_and, Bool.and_false, Bool.and_false, Bool.and_false]
        · rw [decide_eq_false z, Bool.false_and]
      have c4 : (decide (8 ≤ f) && zmC fl p q j (f - 8)) = false := by
        by_cases z : 8 ≤ f
        · unfold zmC; rw [Nat.sub_add_cancel z, ho, Bool.false_and, Bool.and_false, Bool.and_false, Bool.and_false]
        · rw [decide_eq_false z, Bool.false_and]
      unfold covN
      rw [c1, c2, c3, c4]
      rfl
    | true =>
      have hf : f < 64 := bx_lt ho
      obtain ⟨s, hs, d1, d2, d3, d4⟩ := m_sides hw ha hb j hf ho
      have hs' : -s = 1 ∨ -s = -1 := by omega
      have c1 : zmL fl p q j f = e3 (mI fl p q j (hTL f + 10) - mI fl p q j (hTL f + 1)) := by
        rcases d2 with d | ⟨d, cr⟩
        · unfold zmL
          rw [e3_s hs d, Bool.and_false, Bool.and_false, Bool.and_false]
        · have k : f % 8 < 7 ∧ bfx fl (f + 1) = true := by
            rcases cr with z | z
            · exact ⟨ha.1 f z, (g_A1 ha z).1⟩
            · exact ⟨hb.1 f z, (g_A1 hb z).1⟩
          unfold zmL
          rw [decide_eq_true k.1, k.2, ho]
          rfl
      have c2 : zmC fl p q j f = e3 (mI fl p q j (hTL f + 10) - mI fl p q j (hTL f + 9)) := by
        rcases d3 with d | ⟨d, cr⟩
        · unfold zmC
          rw [e3_s hs' d, Bool.and_false, Bool.and_false, Bool.and_false]
        · have k : f < 56 ∧ bfx fl (f + 8) = true := by
            rcases cr with z | z
            · exact ⟨ha.2.1 f z, g_C8 ha z⟩
            · exact ⟨hb.2.1 f z, g_C8 hb z⟩
          unfold zmC
          rw [decide_eq_true k.1, k.2, ho]
          rfl
      have c3 : (decide (1 ≤ f) && zmL fl p q j (f - 1)) = e3 (mI fl p q j (hTL f + 9) - mI fl p q j (hTL f)) := by
        by_cases z : 1 ≤ f % 8
        · have e : hTL (f - 1) + 10 = hTL f + 9 ∧ hTL (f - 1) + 1 = hTL f := by unfold hTL; omega
          rcases d4 with d | ⟨d, cr⟩
          · unfold zmL
            rw [e.1, e.2, e3_s hs' d, Bool.and_false, Bool.and_false, Bool.and_false, Bool.and_false]
          · have k : bfx fl (f - 1) = true := by
              rcases cr with y | y
              · rw [Bool.and_eq_true] at y; exact (g_A ha y.2).1
              · rw [Bool.and_eq_true] at y; exact (g_A hb y.2).1
            unfold zmL
            rw [e.1, e.2, decide_eq_true (show 1 ≤ f by omega), decide_eq_true (show (f - 1) % 8 < 7 by omega), k, Nat.sub_add_cancel (show 1 ≤ f by omega), ho]
            rfl
        · have k2 : (decide (1 ≤ f) && zmL fl p q j (f - 1)) = false := by
            by_cases y : 1 ≤ f
            · unfold zmL; rw [decide_eq_false (show ¬ (f - 1) % 8 < 7 by omega), Bool.false_and, Bool.and_false]
            · rw [decide_eq_false y, Bool.false_and]
          rw [k2]
          rcases d4 with d | ⟨d, cr⟩
          · rw [e3_s hs' d]
          · exfalso
            rcases cr with y | y
            · rw [Bool.and_eq_true, decide_eq_true_iff] at y; have := ha.1 _ y.2; omega
            · rw [Bool.and_eq_true, decide_eq_true_iff] at y; have := hb.1 _ y.2; omega
      have c4 : (decide (8 ≤ f) && zmC fl p q j (f - 8)) = e3 (mI fl p q j (hTL f + 1) - mI fl p q j (hTL f)) := by
        by_cases z : 8 ≤ f
        · have e : hTL (f - 8) + 10 = hTL f + 1 ∧ hTL (f - 8) + 9 = hTL f := by unfold hTL; omega
          rcases d1 with d | ⟨d, cr⟩
          · unfold zmC
            rw [e.1, e.2, e3_s hs d, Bool.and_false, Bool.and_false, Bool.and_false, Bool.and_false]
          · have k : bfx fl (f - 8) = true := by
              rcases cr with y | y
              · rw [Bool.and_eq_true] at y; exact (g_C ha y.2).1
              · rw [Bool.and_eq_true] at y; exact (g_C hb y.2).1
            unfold zmC
            rw [e.1, e.2, decide_eq_true z, decide_eq_true (show f - 8 < 56 by omega), k, Nat.sub_add_cancel z, ho]
            rfl
        · rw [decide_eq_false z, Bool.false_and]
          rcases d1 with d | ⟨d, cr⟩
          · rw [e3_s hs d]
          · exfalso
            rcases cr with y | y
            · rw [Bool.and_eq_true, decide_eq_true_iff] at y; exact z y.1
            · rw [Bool.and_eq_true, decide_eq_true_iff] at y; exact z y.1
      unfold covN
      rw [c1, c2, c3, c4]
      exact four_m hs (d1.imp id (fun z => z.1)) (d2.imp id (fun z => z.1)) (d3.imp id (fun z => z.1)) (d4.imp id (fun z => z.1)) (by omega)
end MLY
