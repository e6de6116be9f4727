def dk (fl : Int64) (d : Nat) : Prop := m_darkF fl (nI d) = true
def RG (mate : Nat → Int32) : Prop := ∀ h, h < 64 → mate h = -1 ∨ ∃ x, x < 64 ∧ mate h = nI x
def SYx (mate : Nat → Int32) (g : Nat) : Prop := (∀ h x, h < 64 → x < 64 → h ≠ g → mate h = nI x → mate x = nI h) ∧ (∀ h, h < 64 → g < 64 → mate h ≠ nI g)
def sSd (fl : Int64) (seen mate : Nat → Int32) (x0 : Int32) (T : Nat → Nat) (P : Nat → Prop) (N : Nat) : Prop := ∀ d, d < 64 → ¬ seen d = 0 → dk fl d → T d < N ∧ ((mate d = -1 ∧ (nI d = x0 ∨ x0 < 0)) ∨ ∃ h, mate d = nI h ∧ P h ∧ T h < T d)
def sSl (fl : Int64) (seen frm : Nat → Int32) (T : Nat → Nat) (P : Nat → Prop) (N : Nat) : Prop := ∀ h, P h → h < 64 ∧ ¬ seen h = 0 ∧ ¬ dk fl h ∧ T h < N ∧ ∃ d, d < 64 ∧ ¬ seen d = 0 ∧ dk fl d ∧ frm h = nI d ∧ T d < T h
def SK (fl : Int64) (seen frm mate : Nat → Int32) (x0 : Int32) : Prop := ∃ (T : Nat → Nat) (P : Nat → Prop) (N : Nat), sSd fl seen mate x0 T P N ∧ sSl fl seen frm T P N
def SKg (fl : Int64) (seen frm mate : Nat → Int32) (x0 : Int32) (g : Nat) : Prop := ∃ (T : Nat → Nat) (P : Nat → Prop) (N : Nat), P g ∧ sSd fl seen mate x0 T P N ∧ sSl fl seen frm T P N
def CH (fl : Int64) (x0 : Int32) (T : Nat → Nat) (P : Nat → Prop) (frm mate : Nat → Int32) (t : Nat) : Prop := ∀ h, P h → T h ≤ t → h < 64 ∧ ¬ dk fl h ∧ ∃ d, d < 64 ∧ dk fl d ∧ frm h = nI d ∧ T d < T h ∧ ((mate d = -1 ∧ (nI d = x0 ∨ x0 < 0)) ∨ ∃ h2, mate d = nI h2 ∧ P h2 ∧ T h2 < T d)
def sfOk (fl : Int64) (x0 : Int32) (frm mate : Nat → Int32) (r : Int32) : Prop := r = -1 ∨ ∃ g, g < 64 ∧ r = nI g ∧ mate g = -1 ∧ ∃ (T : Nat → Nat) (P : Nat → Prop), P g ∧ CH fl x0 T P frm mate (T g)
def tU (T : Nat → Nat) (g N : Nat) : Nat → Nat := fun k => if k = g then N else T k
theorem tU_s {T : Nat → Nat} {g N : Nat} : tU T g N g = N := if_pos rfl
theorem tU_n {T : Nat → Nat} {g N k : Nat} (h : k ≠ g) : tU T g N k = T k := if_neg h
theorem nI_i64 {a b : Nat} (ha : a < 64) (hb : b < 64) (h : nI a = nI b) : a = b := by
  have e := congrArg Int32.toNatClampNeg h
  rw [nI_clamp (Nat.lt_trans ha (by decide)), nI_clamp (Nat.lt_trans hb (by decide))] at e
  exact e
theorem nI_m1 : ∀ h : Fin 64, ¬ nI h.val = -1 := by decide +kernel
theorem nI_nn : ∀ h : Fin 64, ¬ nI h.val < 0 := by decide +kernel
theorem nar1 : ¬ vp_nar .boolean 1 = 0 := by decide
theorem sk_new {fl : Int64} {seen frm mate : Nat → Int32} {x0 : Int32} {f g : Nat} (h : SK fl seen frm mate x0) (hf : f < 64) (hg : g < 64) (hsf : ¬ seen f = 0) (hdf : dk fl f) (hsg : seen g = 0) (hdg : ¬ dk fl g) : SKg fl (upd seen g (vp_nar .boolean 1)) (upd frm g (nI f)) mate x0 g := by
  obtain ⟨T, P, N, ha, hb⟩ := h
  have hne : ∀ k, ¬ seen k = 0 → k ≠ g := fun k hk z => hk (by rw [z]; exact hsg)
  refine ⟨tU T g N, fun k => k = g ∨ P k, N + 1, Or.inl rfl, ?_, ?_⟩
  · intro d hd hs hk
    by_cases z : d = g
    · exact absurd (z ▸ hk) hdg
    · rw [pk_un z] at hs
      obtain ⟨t1, t2⟩ := ha d hd hs hk
      rw [tU_n z]
      refine ⟨Nat.lt_succ_of_lt t1, ?_⟩
      rcases t2 with t2 | ⟨h2, m2, p2, l2⟩
      · exact Or.inl t2
      · refine Or.inr ⟨h2, m2, Or.inr p2, ?_⟩
        rw [tU_n (hne h2 (hb h2 p2).2.1)]
        exact l2
  · intro k hk
    by_cases z : k = g
    · subst z
      refine ⟨hg, ?_, hdg, ?_, f, hf, ?_, hdf, ?_, ?_⟩
      · rw [pk_us]; exact nar1
      · rw [tU_s]; exact Nat.lt_succ_self N
      · rw [pk_un (hne f hsf)]; exact hsf
      · rw [pk_us]
      · rw [tU_s, tU_n (hne f hsf)]; exact (ha f hf hsf hdf).1
    · rcases hk with hk | hk
      · exact absurd hk z
      · obtain ⟨b1, b2, b3, b4, d, b5, b6, b7, b8, b9⟩ := hb k hk
        refine ⟨b1, ?_, b3, ?_, d, b5, ?_, b7, ?_, ?_⟩
        · rw [pk_un z]; exact b2
        · rw [tU_n z]; exact Nat.lt_succ_of_lt b4
        · rw [pk_un (hne d b6)]; exact b6
        · rw [pk_un z]; exact b8
        · rw [tU_n z, tU_n (hne d b6)]; exact b9
theorem sk_mate {fl : Int64} {seen frm mate : Nat → Int32} {x0 : Int32} {d g : Nat} (h : SKg fl seen frm mate x0 g) (hd : d < 64) (hm : mate d = nI g) : SK fl (upd seen d (vp_nar .boolean 1)) frm mate x0 := by
  obtain ⟨T, P, N, hPg, ha, hb⟩ := h
  by_cases hs : seen d = 0
  · have hne : ∀ k, ¬ seen k = 0 → k ≠ d := fun k hk z => hk (by rw [z]; exact hs)
    refine ⟨tU T d N, P, N + 1, ?_, ?_⟩
    · intro k hk hsk hkk
      by_cases z : k = d
      · subst z
        rw [tU_s]
        refine ⟨Nat.lt_succ_self N, Or.inr ⟨g, hm, hPg, ?_⟩⟩
        rw [tU_n (hne g (hb g hPg).2.1)]
        exact (hb g hPg).2.2.2.1
      · rw [pk_un z] at hsk
        obtain ⟨t1, t2⟩ := ha k hk hsk hkk
        rw [tU_n z]
        refine ⟨Nat.lt_succ_of_lt t1, ?_⟩
        rcases t2 with t2 | ⟨h2, m2, p2, l2⟩
        · exact Or.inl t2
        · refine Or.inr ⟨h2, m2, p2, ?_⟩
          rw [tU_n (hne h2 (hb h2 p2).2.1)]
          exact l2
    · intro k hk
      obtain ⟨b1, b2, b3, b4, e, b5, b6, b7, b8, b9⟩ := hb k hk
      refine ⟨b1, ?_, b3, ?_, e, b5, ?_, b7, b8, ?_⟩
      · rw [pk_un (hne k b2)]; exact b2
      · rw [tU_n (hne k b2)]; exact Nat.lt_succ_of_lt b4
      · rw [pk_un (hne e b6)]; exact b6
      · rw [tU_n (hne k b2), tU_n (hne e b6)]; exact b9
  · have hup : ∀ k, ¬ seen k = 0 → ¬ upd seen d (vp_nar .boolean 1) k = 0 := fun k hk => by
      by_cases z : k = d
      · rw [z, pk_us]; exact nar1
      · rw [pk_un z]; exact hk
    refine ⟨T, P, N, ?_, ?_⟩
    · intro k hk hsk hkk
      by_cases z : k = d
      · subst z
        exact ha k hk hs hkk
      · rw [pk_un z] at hsk
        exact ha k hk hsk hkk
    · intro k hk
      obtain ⟨b1, b2, b3, b4, e, b5, b6, b7, b8, b9⟩ := hb k hk
      exact ⟨b1, hup k b2, b3, b4, e, b5, hup e b6, b7, b8, b9⟩
theorem sk_end {fl : Int64} {seen frm mate : Nat → Int32} {x0 : Int32} {g : Nat} (h : SKg fl seen frm mate x0 g) (hg : g < 64) (hm : mate g = -1) : sfOk fl x0 frm mate (nI g) := by
  obtain ⟨T, P, N, hPg, ha, hb⟩ := h
  refine Or.inr ⟨g, hg, rfl, hm, T, P, hPg, fun k hk _ => ?_⟩
  obtain ⟨b1, b2, b3, b4, e, b5, b6, b7, b8, b9⟩ := hb k hk
  exact ⟨b1, b3, e, b5, b7, b8, b9, (ha e b5 b6 b7).2⟩
def sIn (fl : Int64) (seen mate : Nat → Int32) (x0 : Int32) (i : Nat) : Prop := ∀ d, d < i → ¬ seen d = 0 → mate d = -1 ∧ (nI d = x0 ∨ x0 < 0)
theorem sIn_0 {fl : Int64} {seen mate : Nat → Int32} {x0 : Int32} : sIn fl seen mate x0 0 := fun d h => absurd h (Nat.not_lt_zero _)
theorem sIn_up {fl : Int64} {seen mate : Nat → Int32} {x0 : Int32} {i : Nat} {v : Int32} (h : sIn fl seen mate x0 i) (hi : i < 64) (hv : ¬ v = 0 → mate i = -1 ∧ (nI i = x0 ∨ x0 < 0)) : sIn fl (upd seen (nI i).toNatClampNeg v) mate x0 (i + 1) := by
  rw [nI_clamp (Nat.lt_trans hi (by decide))]
  intro d hd hs
  by_cases z : d = i
  · subst z
    rw [pk_us] at hs
    exact hv hs
  · rw [pk_un z] at hs
    exact h d (Nat.lt_of_le_of_ne (Nat.le_of_lt_succ hd) z) hs
theorem sk_0 {fl : Int64} {seen frm mate : Nat → Int32} {x0 : Int32} {i : Nat} (e : i = 64) (h : sIn fl seen mate x0 i) : SK fl seen frm mate x0 := by
  subst e
  exact ⟨fun _ => 0, fun _ => False, 1, fun d hd hs _ => ⟨Nat.zero_lt_one, Or.inl (h d hd hs)⟩, fun k hk => hk.elim⟩
theorem rg_neg {mate : Nat → Int32} (h : RG mate) {i : Nat} (hi : i < 64) (q : ¬ 0 ≤ mate (nI i).toNatClampNeg) : mate i = -1 := by
  rw [nI_clamp (Nat.lt_trans hi (by decide))] at q
  rcases h i hi with z | ⟨x, hx, z⟩
  · exact z
  · rw [z] at q
    exact absurd (Int32.not_lt.mp (nI_nn ⟨x, hx⟩)) q
theorem rg_pos {mate : Nat → Int32} (h : RG mate) {i : Nat} (hi : i < 64) (q : 0 ≤ mate (nI i).toNatClampNeg) : ∃ x, x < 64 ∧ mate (nI i).toNatClampNeg = nI x ∧ mate i = nI x := by
  rw [nI_clamp (Nat.lt_trans hi (by decide))] at *
  rcases h i hi with z | ⟨x, hx, z⟩
  · rw [z] at q
    exact absurd q (by decide)
  · exact ⟨x, hx, z, z⟩
def m_bx (f w : Int32) : Int32 := f - f / 8 * 8 + (if w = 0 then 1 else if w = 1 then -1 else 0)
def m_by (f w : Int32) : Int32 := f / 8 + (if w = 2 then 1 else if w = 3 then -1 else 0)
def m_bes (f w : Int32) : Int32 := if m_within (m_bx f w) 0 7 && m_within (m_by f w) 0 7 then 8 * m_by f w + m_bx f w else -1
theorem bes_t : ∀ f : Fin 64, ∀ w : Fin 4, ¬ m_bes (nI f.val) (nI w.val) < 0 → (m_bes (nI f.val) (nI w.val)).toNatClampNeg < 64 ∧ m_bes (nI f.val) (nI w.val) = nI (m_bes (nI f.val) (nI w.val)).toNatClampNeg ∧ (m_isDark (nI f.val - nI f.val / 8 * 8) (nI f.val / 8) = true → m_isDark (nI (m_bes (nI f.val) (nI w.val)).toNatClampNeg - nI (m_bes (nI f.val) (nI w.val)).toNatClampNeg / 8 * 8) (nI (m_bes (nI f.val) (nI w.val)).toNatClampNeg / 8) = false) := by decide +kernel
theorem bes_g {f w : Nat} (hf : f < 64) (hw : w < 4) (q : ¬ m_bes (nI f) (nI w) < 0) : ∃ g, g < 64 ∧ m_bes (nI f) (nI w) = nI g ∧ (m_isDark (nI f - nI f / 8 * 8) (nI f / 8) = true → m_isDark (nI g - nI g / 8 * 8) (nI g / 8) = false) :=
  ⟨_, bes_t ⟨f, hf⟩ ⟨w, hw⟩ q⟩
theorem dk_not {fl : Int64} {f g : Nat} (hc : m_isDark (nI f - nI f / 8 * 8) (nI f / 8) = true → m_isDark (nI g - nI g / 8 * 8) (nI g / 8) = false) (hf : m_darkF fl (nI f) = true) : ¬ dk fl g := by
  intro h
  unfold dk m_darkF at h
  unfold m_darkF at hf
  rw [Bool.and_eq_true] at h hf
  rw [hc hf.2] at h
  exact absurd h.2 (by decide)
theorem cz_le {m : Nat → Int32} {q : Nat} {v : Int32} (hv : ¬ v = 0) : ∀ n, cntz (upd m q v) n ≤ cntz m n
  | 0 => Nat.le_refl _
  | n + 1 => by
    rw [cntz, cntz]
    refine Nat.add_le_add (cz_le hv n) ?_
    by_cases e : n = q
    · subst e
      rw [pk_us, if_neg hv]
      exact Nat.zero_le _
    · rw [pk_un e]
      exact Nat.le_refl _
theorem cz_ar {a b c d e : Nat} (h1 : a + d ≤ e) (h2 : b + 1 = a) (h3 : c ≤ b) : c + 1 ≤ e := by omega
theorem cz_two {m : Nat → Int32} {g x : Nat} {b : Bool} {c0 : Nat} (hg : g < 64) (h0 : m (nI g).toNatClampNeg = 0) (hc : cntz m 64 + bN b ≤ c0) : cntz (upd (upd m (nI g).toNatClampNeg (vp_nar .boolean 1)) x (vp_nar .boolean 1)) 64 + bN true ≤ c0 := by
  rw [nI_clamp (Nat.lt_trans hg (by decide))] at *
  exact cz_ar hc (cntz_upd (m := m) (q := g) h0 nar1 64 hg) (cz_le nar1 64)
theorem cz_no {m : Nat → Int32} : cntz m 64 + bN false ≤ cntz m 64 := by
  rw [show bN false = 0 from rfl]
  exact Nat.le_of_eq (Nat.add_zero _)
theorem dX10_beside_0 : decode cX10_beside 0 = .ok (.iload_n 0, 1) := by decide +kernel
theorem dX10_beside_1 : decode cX10_beside 1 = .ok (.bipush 8, 2) := by decide +kernel
theorem dX10_beside_3 : decode cX10_beside 3 = .ok (.irem, 1) := by decide +kernel
theorem dX10_beside_4 : decode cX10_beside 4 = .ok (.iload_n 1, 1) := by decide +kernel
theorem dX10_beside_5 : decode cX10_beside 5 = .ok (.ifCond .ne 7, 3) := by decide +kernel
theorem dX10_beside_12 : decode cX10_beside 12 = .ok (.iload_n 1, 1) := by decide +kernel
theorem dX10_beside_13 : decode cX10_beside 13 = .ok (.iconst 1, 1) := by decide +kernel
theorem dX10_beside_14 : decode cX10_beside 14 = .ok (.if_icmp .ne 7, 3) := by decide +kernel
theorem dX10_beside_21 : decode cX10_beside 21 = .ok (.iconst 0, 1) := by decide +kernel
theorem dX10_beside_22 : decode cX10_beside 22 = .ok (.iadd, 1) := by decide +kernel
theorem dX10_beside_23 : decode cX10_beside 23 = .ok (.istore_n 2, 1) := by decide +kernel
theorem dX10_beside_24 : decode cX10_beside 24 = .ok (.iload_n 0, 1) := by decide +kernel
theorem dX10_beside_25 : decode cX10_beside 25 = .ok (.bipush 8, 2) := by decide +kernel
theorem dX10_beside_27 : decode cX10_beside 27 = .ok (.idiv, 1) := by decide +kernel
theorem dX10_beside_28 : decode cX10_beside 28 = .ok (.iload_n 1, 1) := by decide +kernel
theorem dX10_beside_29 : decode cX10_beside 29 = .ok (.iconst 2, 1) := by decide +kernel
theorem dX10_beside_30 : decode cX10_beside 30 = .ok (.if_icmp .ne 7, 3) := by decide +kernel
theorem dX10_beside_37 : decode cX10_beside 37 = .ok (.iload_n 1, 1) := by decide +kernel
theorem dX10_beside_38 : decode cX10_beside 38 = .ok (.iconst 3, 1) := by decide +kernel
theorem dX10_beside_39 : decode cX10_beside 39 = .ok (.if_icmp .ne 7, 3) := by decide +kernel
theorem dX10_beside_46 : decode cX10_beside 46 = .ok (.iconst 0, 1) := by decide +kernel
theorem dX10_beside_47 : decode cX10_beside 47 = .ok (.iadd, 1) := by decide +kernel
theorem dX10_beside_48 : decode cX10_beside 48 = .ok (.istore_n 3, 1) := by decide +kernel
theorem dX10_beside_49 : decode cX10_beside 49 = .ok (.iload_n 2, 1) := by decide +kernel
theorem dX10_beside_50 : decode cX10_beside 50 = .ok (.iconst 0, 1) := by decide +kernel
theorem dX10_beside_51 : decode cX10_beside 51 = .ok (.bipush 7, 2) := by decide +kernel
set_option maxRecDepth 20000 in
theorem ggX10_beside_X10_within : GoodIn wsX10_beside wsX10_within := goodIn_r _ [4] rfl (by decide +kernel)
set_option maxRecDepth 20000 in
theorem gX10_beside_X10_within : GoodIn wsX10_beside (va_wsS RX10 70 yX10_within wsX10_within) := goodIn_app (goodIn_r _ [1, 2, 3] rfl (by decide +kernel)) ggX10_beside_X10_within
theorem dX10_beside_53 : decode cX10_beside 53 = .ok (.invokestatic 70, 3) := by decide +kernel
theorem dX10_beside_56 : decode cX10_beside 56 = .ok (.ifCond .eq 22, 3) := by decide +kernel
theorem dX10_beside_78 : decode cX10_beside 78 = .ok (.iconst (-1), 1) := by decide +kernel
theorem dX10_beside_79 : decode cX10_beside 79 = .ok (.ireturn, 1) := by decide +kernel
theorem dX10_beside_59 : decode cX10_beside 59 = .ok (.iload_n 3, 1) := by decide +kernel
theorem dX10_beside_60 : decode cX10_beside 60 = .ok (.iconst 0, 1) := by decide +kernel
theorem dX10_beside_61 : decode cX10_beside 61 = .ok (.bipush 7, 2) := by decide +kernel
theorem dX10_beside_63 : decode cX10_beside 63 = .ok (.invokestatic 70, 3) := by decide +kernel
theorem dX10_beside_66 : decode cX10_beside 66 = .ok (.ifCond .eq 12, 3) := by decide +kernel
theorem dX10_beside_69 : decode cX10_beside 69 = .ok (.bipush 8, 2) := by decide +kernel
theorem dX10_beside_71 : decode cX10_beside 71 = .ok (.iload_n 3, 1) := by decide +kernel
theorem dX10_beside_72 : decode cX10_beside 72 = .ok (.imul, 1) := by decide +kernel
theorem dX10_beside_73 : decode cX10_beside 73 = .ok (.iload_n 2, 1) := by decide +kernel
theorem dX10_beside_74 : decode cX10_beside 74 = .ok (.iadd, 1) := by decide +kernel
theorem dX10_beside_75 : decode cX10_beside 75 = .ok (.goto 4, 3) := by decide +kernel
theorem dX10_beside_42 : decode cX10_beside 42 = .ok (.iconst (-1), 1) := by decide +kernel
theorem dX10_beside_43 : decode cX10_beside 43 = .ok (.goto 4, 3) := by decide +kernel
theorem dX10_beside_33 : decode cX10_beside 33 = .ok (.iconst 1, 1) := by decide +kernel
theorem dX10_beside_34 : decode cX10_beside 34 = .ok (.goto 13, 3) := by decide +kernel
theorem dX10_beside_17 : decode cX10_beside 17 = .ok (.iconst (-1), 1) := by decide +kernel
theorem dX10_beside_18 : decode cX10_beside 18 = .ok (.goto 4, 3) := by decide +kernel
theorem dX10_beside_8 : decode cX10_beside 8 = .ok (.iconst 1, 1) := by decide +kernel
theorem dX10_beside_9 : decode cX10_beside 9 = .ok (.goto 13, 3) := by decide +kernel
set_option maxHeartbeats 4000000 in
set_option maxRecDepth 100000 in
theorem c_X10_beside (l : Launch) (x0 : Int32) (x1 : Int32) : Met l yX10_beside wsX10_beside ({ frames := 1, cells := 0, slots := 0, locals := 22 }) (va_Pc [.int x0, .int x1] (fun _ => True)) (vp_Si (fun r => r = m_bes x0 x1)) 0 0 (fun _ => False) := by
  refine Met.ofW (cc := cX10_beside) (maxL := 4) (ret := (some .int)) (by decide) rfl ?_
  intro p e s m args below meth c s₁ B hml hv
  obtain ⟨rfl, -⟩ := hv
  have hx := B.exec
  have hb := B.bytes
  have hr := B.returns
  have hts := atoms_spec (ws := wsX10_beside) B.pre
  have hown : s.vm.findClass RX10 = some m.cls := findClass_of_methodNamed B.named
  have hlocks := B.notSynchronized
  have hl := lv_entry ([.int x0, .int x1]) (n := 4) (Nat.le_of_ble_eq_true rfl)
  rw [lg_entry_eq]
  generalize (lg_sl ([.int x0, .int x1]) ++ List.replicate (4 - (lg_sl ([.int x0, .int x1])).length) Slot.unset).toArray = ls at hl ⊢
  have hl : lv_has ls 4 [(0, .int x0), (1, .int x1)] := hl
  refine lv_iload_n hx hb dX10_beside_0 rfl (lv_at hl 0 rfl) ?_
  refine lv_bipush (v := 8) hx hb dX10_beside_1 (by decide) ?_
  refine lv_irem hx hb dX10_beside_3 (by decide) ?_
  refine lv_iload_n hx hb dX10_beside_4 rfl (lv_at hl 1 rfl) ?_
  refine lv_if_ne (tgt := 12) hx hb dX10_beside_5 (by decide) (fun c_1 => ?_) (fun c_1 => ?_)
  · refine lv_iload_n hx hb dX10_beside_12 rfl (lv_at hl 1 rfl) ?_
    refine lv_iconst (v := 1) hx hb dX10_beside_13 (by decide) ?_
    refine lv_icmp_ne (tgt := 21) hx hb dX10_beside_14 (by decide) (fun c_2 => ?_) (fun c_2 => ?_)
    · refine lv_iconst (v := 0) hx hb dX10_beside_21 (by decide) ?_
      refine lv_iadd hx hb dX10_beside_22 ?_
      refine lv_istore_n (lv' := [(2, .int ((x0 - x0 / 8 * 8) + 0)), (0, .int x0), (1, .int x1)]) hx hb dX10_beside_23 rfl hl (by decide) rfl (fun ls hl => ?_)
      refine lv_iload_n hx hb dX10_beside_24 rfl (lv_at hl 1 rfl) ?_
      refine lv_bipush (v := 8) hx hb dX10_beside_25 (by decide) ?_
      refine lv_idiv hx hb dX10_beside_27 (by decide) ?_
      refine lv_iload_n hx hb dX10_beside_28 rfl (lv_at hl 2 rfl) ?_
      refine lv_iconst (v := 2) hx hb dX10_beside_29 (by decide) ?_
      refine lv_icmp_ne (tgt := 37) hx hb dX10_beside_30 (by decide) (fun c_3 => ?_) (fun c_3 => ?_)
      · refine lv_iload_n hx hb dX10_beside_37 rfl (lv_at hl 2 rfl) ?_
        refine lv_iconst (v := 3) hx hb dX10_beside_38 (by decide) ?_
        refine lv_icmp_ne (tgt := 46) hx hb dX10_beside_39 (by decide) (fun c_4 => ?_) (fun c_4 => ?_)
        · refine lv_iconst (v := 0) hx hb dX10_beside_46 (by decide) ?_
          refine lv_iadd hx hb dX10_beside_47 ?_
          refine lv_istore_n (lv' := [(3, .int ((x0 / 8) + 0)), (2, .int ((x0 - x0 / 8 * 8) + 0)), (0, .int x0), (1, .int x1)]) hx hb dX10_beside_48 rfl hl (by decide) rfl (fun ls hl => ?_)
          refine lv_iload_n hx hb dX10_beside_49 rfl (lv_at hl 1 rfl) ?_
          refine lv_iconst (v := 0) hx hb dX10_beside_50 (by decide) ?_
          refine lv_bipush (v := 7) hx hb dX10_beside_51 (by decide) ?_
          refine kS_i (As := [.int ((x0 - x0 / 8 * 8) + 0), .int 0, .int 7]) (rest := []) ⟨hx, hb, hml, hown, hts⟩ (c_X10_within l ((x0 - x0 / 8 * 8) + 0) 0 7) (va_cwS 3 hts gX10_beside_X10_within rfl rfl rfl (by decide +kernel) ⟨Nat.le_of_ble_eq_true rfl, Nat.le_of_ble_eq_true rfl⟩) rfl hl.1 rfl (Nat.le_of_ble_eq_true rfl) dX10_beside_53 ⟨Nat.le_of_ble_eq_true rfl, Nat.le_of_ble_eq_true rfl⟩ ?_
          refine lv_if_eq (tgt := 78) hx hb dX10_beside_56 (by decide) (fun c_5 => ?_) (fun c_5 => ?_)
          · replace c_5 := bI_f c_5
            refine lv_iconst (v := (-1)) hx hb dX10_beside_78 (by decide) ?_
            exact pret_i hx hb hr hlocks (by simp [m_bes, m_bx, m_by, c_1, c_2, c_3, c_4, c_5] <;> simp_all [m_bx, m_by]) dX10_beside_79
          · replace c_5 := bI_t c_5
            refine lv_iload_n hx hb dX10_beside_59 rfl (lv_at hl 0 rfl) ?_
            refine lv_iconst (v := 0) hx hb dX10_beside_60 (by decide) ?_
            refine lv_bipush (v := 7) hx hb dX10_beside_61 (by decide) ?_
            refine kS_i (As := [.int ((x0 / 8) + 0), .int 0, .int 7]) (rest := []) ⟨hx, hb, hml, hown, hts⟩ (c_X10_within l ((x0 / 8) + 0) 0 7) (va_cwS 3 hts gX10_beside_X10_within rfl rfl rfl (by decide +kernel) ⟨Nat.le_of_ble_eq_true rfl, Nat.le_of_ble_eq_true rfl⟩) rfl hl.1 rfl (Nat.le_of_ble_eq_true rfl) dX10_beside_63 ⟨Nat.le_of_ble_eq_true rfl, Nat.le_of_ble_eq_true rfl⟩ ?_
            refine lv_if_eq (tgt := 78) hx hb dX10_beside_66 (by decide) (fun c_6 => ?_) (fun c_6 => ?_)
            · replace c_6 := bI_f c_6
              refine lv_iconst (v := (-1)) hx hb dX10_beside_78 (by decide) ?_
              exact pret_i hx hb hr hlocks (by simp [m_bes, m_bx, m_by, c_1, c_2, c_3, c_4, c_5, c_6] <;> simp_all [m_bx, m_by]) dX10_beside_79
            · replace c_6 := bI_t c_6
              refine lv_bipush (v := 8) hx hb dX10_beside_69 (by decide) ?_
              refine lv_iload_n hx hb dX10_beside_71 rfl (lv_at hl 0 rfl) ?_
              refine lv_imul hx hb dX10_beside_72 ?_
              refine lv_iload_n hx hb dX10_beside_73 rfl (lv_at hl 1 rfl) ?_
              refine lv_iadd hx hb dX10_beside_74 ?_
              refine lv_goto (tgt := 79) hx hb dX10_beside_75 (by decide) ?_
              exact pret_i hx hb hr hlocks (by simp [m_bes, m_bx, m_by, c_1, c_2, c_3, c_4, c_5, c_6] <;> simp_all [m_bx, m_by]) dX10_beside_79
        · refine lv_iconst (v := (-1)) hx hb dX10_beside_42 (by decide) ?_
          refine lv_goto (tgt := 47) hx hb dX10_beside_43 (by decide) ?_
          refine lv_iadd hx hb dX10_beside_47 ?_
          refine lv_istore_n (lv' := [(3, .int ((x0 / 8) + (-1))), (2, .int ((x0 - x0 / 8 * 8) + 0)), (0, .int x0), (1, .int x1)]) hx hb dX10_beside_48 rfl hl (by decide) rfl (fun ls hl => ?_)
          refine lv_iload_n hx hb dX10_beside_49 rfl (lv_at hl 1 rfl) ?_
          refine lv_iconst (v := 0) hx hb dX10_beside_50 (by decide) ?_
          refine lv_bipush (v := 7) hx hb dX10_beside_51 (by decide) ?_
          refine kS_i (As := [.int ((x0 - x0 / 8 * 8) + 0), .int 0, .int 7]) (rest := []) ⟨hx, hb, hml, hown, hts⟩ (c_X10_within l ((x0 - x0 / 8 * 8) + 0) 0 7) (va_cwS 3 hts gX10_beside_X10_within rfl rfl rfl (by decide +kernel) ⟨Nat.le_of_ble_eq_true rfl, Nat.le_of_ble_eq_true rfl⟩) rfl hl.1 rfl (Nat.le_of_ble_eq_true rfl) dX10_beside_53 ⟨Nat.le_of_ble_eq_true rfl, Nat.le_of_ble_eq_true rfl⟩ ?_
          refine lv_if_eq (tgt := 78) hx hb dX10_beside_56 (by decide) (fun c_7 => ?_) (fun c_7 => ?_)
          · replace c_7 := bI_f c_7
            refine lv_iconst (v := (-1)) hx hb dX10_beside_78 (by decide) ?_
            exact pret_i hx hb hr hlocks (by simp [m_bes, m_bx, m_by, c_1, c_2, c_3, c_4, c_7] <;> simp_all [m_bx, m_by]) dX10_beside_79
          · replace c_7 := bI_t c_7
            refine lv_iload_n hx hb dX10_beside_59 rfl (lv_at hl 0 rfl) ?_
            refine lv_iconst (v := 0) hx hb dX10_beside_60 (by decide) ?_
            refine lv_bipush (v := 7) hx hb dX10_beside_61 (by decide) ?_
            refine kS_i (As := [.int ((x0 / 8) + (-1)), .int 0, .int 7]) (rest := []) ⟨hx, hb, hml, hown, hts⟩ (c_X10_within l ((x0 / 8) + (-1)) 0 7) (va_cwS 3 hts gX10_beside_X10_within rfl rfl rfl (by decide +kernel) ⟨Nat.le_of_ble_eq_true rfl, Nat.le_of_ble_eq_true rfl⟩) rfl hl.1 rfl (Nat.le_of_ble_eq_true rfl) dX10_beside_63 ⟨Nat.le_of_ble_eq_true rfl, Nat.le_of_ble_eq_true rfl⟩ ?_
            refine lv_if_eq (tgt := 78) hx hb dX10_beside_66 (by decide) (fun c_8 => ?_) (fun c_8 => ?_)
            · replace c_8 := bI_f c_8
              refine lv_iconst (v := (-1)) hx hb dX10_beside_78 (by decide) ?_
              exact pret_i hx hb hr hlocks (by simp [m_bes, m_bx, m_by, c_1, c_2, c_3, c_4, c_7, c_8] <;> simp_all [m_bx, m_by]) dX10_beside_79
            · replace c_8 := bI_t c_8
              refine lv_bipush (v := 8) hx hb dX10_beside_69 (by decide) ?_
              refine lv_iload_n hx hb dX10_beside_71 rfl (lv_at hl 0 rfl) ?_
              refine lv_imul hx hb dX10_beside_72 ?_
              refine lv_iload_n hx hb dX10_beside_73 rfl (lv_at hl 1 rfl) ?_
              refine lv_iadd hx hb dX10_beside_74 ?_
              refine lv_goto (tgt := 79) hx hb dX10_beside_75 (by decide) ?_
              exact pret_i hx hb hr hlocks (by simp [m_bes, m_bx, m_by, c_1, c_2, c_3, c_4, c_7, c_8] <;> simp_all [m_bx, m_by]) dX10_beside_79
      · refine lv_iconst (v := 1) hx hb dX10_beside_33 (by decide) ?_
        refine lv_goto (tgt := 47) hx hb dX10_beside_34 (by decide) ?_
        refine lv_iadd hx hb dX10_beside_47 ?_
        refine lv_istore_n (lv' := [(3, .int ((x0 / 8) + 1)), (2, .int ((x0 - x0 / 8 * 8) + 0)), (0, .int x0), (1, .int x1)]) hx hb dX10_beside_48 rfl hl (by decide) rfl (fun ls hl => ?_)
        refine lv_iload_n hx hb dX10_beside_49 rfl (lv_at hl 1 rfl) ?_
        refine lv_iconst (v := 0) hx hb dX10_beside_50 (by decide) ?_
        refine lv_bipush (v := 7) hx hb dX10_beside_51 (by decide) ?_
        refine kS_i (As := [.int ((x0 - x0 / 8 * 8) + 0), .int 0, .int 7]) (rest := []) ⟨hx, hb, hml, hown, hts⟩ (c_X10_within l ((x0 - x0 / 8 * 8) + 0) 0 7) (va_cwS 3 hts gX10_beside_X10_within rfl rfl rfl (by decide +kernel) ⟨Nat.le_of_ble_eq_true rfl, Nat.le_of_ble_eq_true rfl⟩) rfl hl.1 rfl (Nat.le_of_ble_eq_true rfl) dX10_beside_53 ⟨Nat.le_of_ble_eq_true rfl, Nat.le_of_ble_eq_true rfl⟩ ?_
        refine lv_if_eq (tgt := 78) hx hb dX10_beside_56 (by decide) (fun c_9 => ?_) (fun c_9 => ?_)
        · replace c_9 := bI_f c_9
          refine lv_iconst (v := (-1)) hx hb dX10_beside_78 (by decide) ?_
          exact pret_i hx hb hr hlocks (by simp [m_bes, m_bx, m_by, c_1, c_2, c_3, c_9] <;> simp_all [m_bx, m_by]) dX10_beside_79
        · replace c_9 := bI_t c_9
          refine lv_iload_n hx hb dX10_beside_59 rfl (lv_at hl 0 rfl) ?_
          refine lv_iconst (v := 0) hx hb dX10_beside_60 (by decide) ?_
          refine lv_bipush (v := 7) hx hb dX10_beside_61 (by decide) ?_
          refine kS_i (As := [.int ((x0 / 8) + 1), .int 0, .int 7]) (rest := []) ⟨hx, hb, hml, hown, hts⟩ (c_X10_within l ((x0 / 8) + 1) 0 7) (va_cwS 3 hts gX10_beside_X10_within rfl rfl rfl (by decide +kernel) ⟨Nat.le_of_ble_eq_true rfl, Nat.le_of_ble_eq_true rfl⟩) rfl hl.1 rfl (Nat.le_of_ble_eq_true rfl) dX10_beside_63 ⟨Nat.le_of_ble_eq_true rfl, Nat.le_of_ble_eq_true rfl⟩ ?_
          refine lv_if_eq (tgt := 78) hx hb dX10_beside_66 (by decide) (fun c_10 => ?_) (fun c_10 => ?_)
          · replace c_10 := bI_f c_10
            refine lv_iconst (v := (-1)) hx hb dX10_beside_78 (by decide) ?_
            exact pret_i hx hb hr hlocks (by simp [m_bes, m_bx, m_by, c_1, c_2, c_3, c_9, c_10] <;> simp_all [m_bx, m_by]) dX10_beside_79
          · replace c_10 := bI_t c_10
            refine lv_bipush (v := 8) hx hb dX10_beside_69 (by decide) ?_
            refine lv_iload_n hx hb dX10_beside_71 rfl (lv_at hl 0 rfl) ?_
            refine lv_imul hx hb dX10_beside_72 ?_
            refine lv_iload_n hx hb dX10_beside_73 rfl (lv_at hl 1 rfl) ?_
            refine lv_iadd hx hb dX10_beside_74 ?_
            refine lv_goto (tgt := 79) hx hb dX10_beside_75 (by decide) ?_
            exact pret_i hx hb hr hlocks (by simp [m_bes, m_bx, m_by, c_1, c_2, c_3, c_9, c_10] <;> simp_all [m_bx, m_by]) dX10_beside_79
    · refine lv_iconst (v := (-1)) hx hb dX10_beside_17 (by decide) ?_
      refine lv_goto (tgt := 22) hx hb dX10_beside_18 (by decide) ?_
      refine lv_iadd hx hb dX10_beside_22 ?_
      refine lv_istore_n (lv' := [(2, .int ((x0 - x0 / 8 * 8) + (-1))), (0, .int x0), (1, .int x1)]) hx hb dX10_beside_23 rfl hl (by decide) rfl (fun ls hl => ?_)
      refine lv_iload_n hx hb dX10_beside_24 rfl (lv_at hl 1 rfl) ?_
      refine lv_bipush (v := 8) hx hb dX10_beside_25 (by decide) ?_
      refine lv_idiv hx hb dX10_beside_27 (by decide) ?_
      refine lv_iload_n hx hb dX10_beside_28 rfl (lv_at hl 2 rfl) ?_
      refine lv_iconst (v := 2) hx hb dX10_beside_29 (by decide) ?_
      refine lv_icmp_ne (tgt := 37) hx hb dX10_beside_30 (by decide) (fun c_11 => ?_) (fun c_11 => ?_)
      · refine lv_iload_n hx hb dX10_beside_37 rfl (lv_at hl 2 rfl) ?_
        refine lv_iconst (v := 3) hx hb dX10_beside_38 (by decide) ?_
        refine lv_icmp_ne (tgt := 46) hx hb dX10_beside_39 (by decide) (fun c_12 => ?_) (fun c_12 => ?_)
        · refine lv_iconst (v := 0) hx hb dX10_beside_46 (by decide) ?_
          refine lv_iadd hx hb dX10_beside_47 ?_
          refine lv_istore_n (lv' := [(3, .int ((x0 / 8) + 0)), (2, .int ((x0 - x0 / 8 * 8) + (-1))), (0, .int x0), (1, .int x1)]) hx hb dX10_beside_48 rfl hl (by decide) rfl (fun ls hl => ?_)
          refine lv_iload_n hx hb dX10_beside_49 rfl (lv_at hl 1 rfl) ?_
          refine lv_iconst (v := 0) hx hb dX10_beside_50 (by decide) ?_
          refine lv_bipush (v := 7) hx hb dX10_beside_51 (by decide) ?_
          refine kS_i (As := [.int ((x0 - x0 / 8 * 8) + (-1)), .int 0, .int 7]) (rest := []) ⟨hx, hb, hml, hown, hts⟩ (c_X10_within l ((x0 - x0 / 8 * 8) + (-1)) 0 7) (va_cwS 3 hts gX10_beside_X10_within rfl rfl rfl (by decide +kernel) ⟨Nat.le_of_ble_eq_true rfl, Nat.le_of_ble_eq_true rfl⟩) rfl hl.1 rfl (Nat.le_of_ble_eq_true rfl) dX10_beside_53 ⟨Nat.le_of_ble_eq_true rfl, Nat.le_of_ble_eq_true rfl⟩ ?_
          refine lv_if_eq (tgt := 78) hx hb dX10_beside_56 (by decide) (fun c_13 => ?_) (fun c_13 => ?_)
          · replace c_13 := bI_f c_13
            refine lv_iconst (v := (-1)) hx hb dX10_beside_78 (by decide) ?_
            exact pret_i hx hb hr hlocks (by simp [m_bes, m_bx, m_by, c_1, c_2, c_11, c_12, c_13] <;> simp_all [m_bx, m_by]) dX10_beside_79
          · replace c_13 := bI_t c_13
            refine lv_iload_n hx hb dX10_beside_59 rfl (lv_at hl 0 rfl) ?_
            refine lv_iconst (v := 0) hx hb dX10_beside_60 (by decide) ?_
            refine lv_bipush (v := 7) hx hb dX10_beside_61 (by decide) ?_
            refine kS_i (As := [.int ((x0 / 8) + 0), .int 0, .int 7]) (rest := []) ⟨hx, hb, hml, hown, hts⟩ (c_X10_within l ((x0 / 8) + 0) 0 7) (va_cwS 3 hts gX10_beside_X10_within rfl rfl rfl (by decide +kernel) ⟨Nat.le_of_ble_eq_true rfl, Nat.le_of_ble_eq_true rfl⟩) rfl hl.1 rfl (Nat.le_of_ble_eq_true rfl) dX10_beside_63 ⟨Nat.le_of_ble_eq_true rfl, Nat.le_of_ble_eq_true rfl⟩ ?_
            refine lv_if_eq (tgt := 78) hx hb dX10_beside_66 (by decide) (fun c_14 => ?_) (fun c_14 => ?_)
            · replace c_14 := bI_f c_14
              refine lv_iconst (v := (-1)) hx hb dX10_beside_78 (by decide) ?_
              exact pret_i hx hb hr hlocks (by simp [m_bes, m_bx, m_by, c_1, c_2, c_11, c_12, c_13, c_14] <;> simp_all [m_bx, m_by]) dX10_beside_79
            · replace c_14 := bI_t c_14
              refine lv_bipush (v := 8) hx hb dX10_beside_69 (by decide) ?_
              refine lv_iload_n hx hb dX10_beside_71 rfl (lv_at hl 0 rfl) ?_
              refine lv_imul hx hb dX10_beside_72 ?_
              refine lv_iload_n hx hb dX10_beside_73 rfl (lv_at hl 1 rfl) ?_
              refine lv_iadd hx hb dX10_beside_74 ?_
              refine lv_goto (tgt := 79) hx hb dX10_beside_75 (by decide) ?_
              exact pret_i hx hb hr hlocks (by simp [m_bes, m_bx, m_by, c_1, c_2, c_11, c_12, c_13, c_14] <;> simp_all [m_bx, m_by]) dX10_beside_79
        · refine lv_iconst (v := (-1)) hx hb dX10_beside_42 (by decide) ?_
          refine lv_goto (tgt := 47) hx hb dX10_beside_43 (by decide) ?_
          refine lv_iadd hx hb dX10_beside_47 ?_
          refine lv_istore_n (lv' := [(3, .int ((x0 / 8) + (-1))), (2, .int ((x0 - x0 / 8 * 8) + (-1))), (0, .int x0), (1, .int x1)]) hx hb dX10_beside_48 rfl hl (by decide) rfl (fun ls hl => ?_)
          refine lv_iload_n hx hb dX10_beside_49 rfl (lv_at hl 1 rfl) ?_
          refine lv_iconst (v := 0) hx hb dX10_beside_50 (by decide) ?_
          refine lv_bipush (v := 7) hx hb dX10_beside_51 (by decide) ?_
          refine kS_i (As := [.int ((x0 - x0 / 8 * 8) + (-1)), .int 0, .int 7]) (rest := []) ⟨hx, hb, hml, hown, hts⟩ (c_X10_within l ((x0 - x0 / 8 * 8) + (-1)) 0 7) (va_cwS 3 hts gX10_beside_X10_within rfl rfl rfl (by decide +kernel) ⟨Nat.le_of_ble_eq_true rfl, Nat.le_of_ble_eq_true rfl⟩) rfl hl.1 rfl (Nat.le_of_ble_eq_true rfl) dX10_beside_53 ⟨Nat.le_of_ble_eq_true rfl, Nat.le_of_ble_eq_true rfl⟩ ?_
          refine lv_if_eq (tgt := 78) hx hb dX10_beside_56 (by decide) (fun c_15 => ?_) (fun c_15 => ?_)
          · replace c_15 := bI_f c_15
            refine lv_iconst (v := (-1)) hx hb dX10_beside_78 (by decide) ?_
            exact pret_i hx hb hr hlocks (by simp [m_bes, m_bx, m_by, c_1, c_2, c_11, c_12, c_15] <;> simp_all [m_bx, m_by]) dX10_beside_79
          · replace c_15 := bI_t c_15
            refine lv_iload_n hx hb dX10_beside_59 rfl (lv_at hl 0 rfl) ?_
            refine lv_iconst (v := 0) hx hb dX10_beside_60 (by decide) ?_
            refine lv_bipush (v := 7) hx hb dX10_beside_61 (by decide) ?_
            refine kS_i (As := [.int ((x0 / 8) + (-1)), .int 0, .int 7]) (rest := []) ⟨hx, hb, hml, hown, hts⟩ (c_X10_within l ((x0 / 8) + (-1)) 0 7) (va_cwS 3 hts gX10_beside_X10_within rfl rfl rfl (by decide +kernel) ⟨Nat.le_of_ble_eq_true rfl, Nat.le_of_ble_eq_true rfl⟩) rfl hl.1 rfl (Nat.le_of_ble_eq_true rfl) dX10_beside_63 ⟨Nat.le_of_ble_eq_true rfl, Nat.le_of_ble_eq_true rfl⟩ ?_
            refine lv_if_eq (tgt := 78) hx hb dX10_beside_66 (by decide) (fun c_16 => ?_) (fun c_16 => ?_)
            · replace c_16 := bI_f c_16
              refine lv_iconst (v := (-1)) hx hb dX10_beside_78 (by decide) ?_
              exact pret_i hx hb hr hlocks (by simp [m_bes, m_bx, m_by, c_1, c_2, c_11, c_12, c_15, c_16] <;> simp_all [m_bx, m_by]) dX10_beside_79
            · replace c_16 := bI_t c_16
              refine lv_bipush (v := 8) hx hb dX10_beside_69 (by decide) ?_
              refine lv_iload_n hx hb dX10_beside_71 rfl (lv_at hl 0 rfl) ?_
              refine lv_imul hx hb dX10_beside_72 ?_
              refine lv_iload_n hx hb dX10_beside_73 rfl (lv_at hl 1 rfl) ?_
              refine lv_iadd hx hb dX10_beside_74 ?_
              refine lv_goto (tgt := 79) hx hb dX10_beside_75 (by decide) ?_
              exact pret_i hx hb hr hlocks (by simp [m_bes, m_bx, m_by, c_1, c_2, c_11, c_12, c_15, c_16] <;> simp_all [m_bx, m_by]) dX10_beside_79
      · refine lv_iconst (v := 1) hx hb dX10_beside_33 (by decide) ?_
        refine lv_goto (tgt := 47) hx hb dX10_beside_34 (by decide) ?_
        refine lv_iadd hx hb dX10_beside_47 ?_
        refine lv_istore_n (lv' := [(3, .int ((x0 / 8) + 1)), (2, .int ((x0 - x0 / 8 * 8) + (-1))), (0, .int x0), (1, .int x1)]) hx hb dX10_beside_48 rfl hl (by decide) rfl (fun ls hl => ?_)
        refine lv_iload_n hx hb dX10_beside_49 rfl (lv_at hl 1 rfl) ?_
        refine lv_iconst (v := 0) hx hb dX10_beside_50 (by decide) ?_
        refine lv_bipush (v := 7) hx hb dX10_beside_51 (by decide) ?_
        refine kS_i (As := [.int ((x0 - x0 / 8 * 8) + (-1)), .int 0, .int 7]) (rest := []) ⟨hx, hb, hml, hown, hts⟩ (c_X10_within l ((x0 - x0 / 8 * 8) + (-1)) 0 7) (va_cwS 3 hts gX10_beside_X10_within rfl rfl rfl (by decide +kernel) ⟨Nat.le_of_ble_eq_true rfl, Nat.le_of_ble_eq_true rfl⟩) rfl hl.1 rfl (Nat.le_of_ble_eq_true rfl) dX10_beside_53 ⟨Nat.le_of_ble_eq_true rfl, Nat.le_of_ble_eq_true rfl⟩ ?_
        refine lv_if_eq (tgt := 78) hx hb dX10_beside_56 (by decide) (fun c_17 => ?_) (fun c_17 => ?_)
        · replace c_17 := bI_f c_17
          refine lv_iconst (v := (-1)) hx hb dX10_beside_78 (by decide) ?_
          exact pret_i hx hb hr hlocks (by simp [m_bes, m_bx, m_by, c_1, c_2, c_11, c_17] <;> simp_all [m_bx, m_by]) dX10_beside_79
        · replace c_17 := bI_t c_17
          refine lv_iload_n hx hb dX10_beside_59 rfl (lv_at hl 0 rfl) ?_
          refine lv_iconst (v := 0) hx hb dX10_beside_60 (by decide) ?_
          refine lv_bipush (v := 7) hx hb dX10_beside_61 (by decide) ?_
          refine kS_i (As := [.int ((x0 / 8) + 1), .int 0, .int 7]) (rest := []) ⟨hx, hb, hml, hown, hts⟩ (c_X10_within l ((x0 / 8) + 1) 0 7) (va_cwS 3 hts gX10_beside_X10_within rfl rfl rfl (by decide +kernel) ⟨Nat.le_of_ble_eq_true rfl, Nat.le_of_ble_eq_true rfl⟩) rfl hl.1 rfl (Nat.le_of_ble_eq_true rfl) dX10_beside_63 ⟨Nat.le_of_ble_eq_true rfl, Nat.le_of_ble_eq_true rfl⟩ ?_
          refine lv_if_eq (tgt := 78) hx hb dX10_beside_66 (by decide) (fun c_18 => ?_) (fun c_18 => ?_)
          · replace c_18 := bI_f c_18
            refine lv_iconst (v := (-1)) hx hb dX10_beside_78 (by decide) ?_
            exact pret_i hx hb hr hlocks (by simp [m_bes, m_bx, m_by, c_1, c_2, c_11, c_17, c_18] <;> simp_all [m_bx, m_by]) dX10_beside_79
          · replace c_18 := bI_t c_18
            refine lv_bipush (v := 8) hx hb dX10_beside_69 (by decide) ?_
            refine lv_iload_n hx hb dX10_beside_71 rfl (lv_at hl 0 rfl) ?_
            refine lv_imul hx hb dX10_beside_72 ?_
            refine lv_iload_n hx hb dX10_beside_73 rfl (lv_at hl 1 rfl) ?_
            refine lv_iadd hx hb dX10_beside_74 ?_
            refine lv_goto (tgt := 79) hx hb dX10_beside_75 (by decide) ?_
            exact pret_i hx hb hr hlocks (by simp [m_bes, m_bx, m_by, c_1, c_2, c_11, c_17, c_18] <;> simp_all [m_bx, m_by]) dX10_beside_79
  · refine lv_iconst (v := 1) hx hb dX10_beside_8 (by decide) ?_
    refine lv_goto (tgt := 22) hx hb dX10_beside_9 (by decide) ?_
    refine lv_iadd hx hb dX10_beside_22 ?_
    refine lv_istore_n (lv' := [(2, .int ((x0 - x0 / 8 * 8) + 1)), (0, .int x0), (1, .int x1)]) hx hb dX10_beside_23 rfl hl (by decide) rfl (fun ls hl => ?_)
    refine lv_iload_n hx hb dX10_beside_24 rfl (lv_at hl 1 rfl) ?_
    refine lv_bipush (v := 8) hx hb dX10_beside_25 (by decide) ?_
    refine lv_idiv hx hb dX10_beside_27 (by decide) ?_
    refine lv_iload_n hx hb dX10_beside_28 rfl (lv_at hl 2 rfl) ?_
    refine lv_iconst (v := 2) hx hb dX10_beside_29 (by decide) ?_
    refine lv_icmp_ne (tgt := 37) hx hb dX10_beside_30 (by decide) (fun c_19 => ?_) (fun c_19 => ?_)
    · refine lv_iload_n hx hb dX10_beside_37 rfl (lv_at hl 2 rfl) ?_
      refine lv_iconst (v := 3) hx hb dX10_beside_38 (by decide) ?_
      refine lv_icmp_ne (tgt := 46) hx hb dX10_beside_39 (by decide) (fun c_20 => ?_) (fun c_20 => ?_)
      · refine lv_iconst (v := 0) hx hb dX10_beside_46 (by decide) ?_
        refine lv_iadd hx hb dX10_beside_47 ?_
        refine lv_istore_n (lv' := [(3, .int ((x0 / 8) + 0)), (2, .int ((x0 - x0 / 8 * 8) + 1)), (0, .int x0), (1, .int x1)]) hx hb dX10_beside_48 rfl hl (by decide) rfl (fun ls hl => ?_)
        refine lv_iload_n hx hb dX10_beside_49 rfl (lv_at hl 1 rfl) ?_
        refine lv_iconst (v := 0) hx hb dX10_beside_50 (by decide) ?_
        refine lv_bipush (v := 7) hx hb dX10_beside_51 (by decide) ?_
        refine kS_i (As := [.int ((x0 - x0 / 8 * 8) + 1), .int 0, .int 7]) (rest := []) ⟨hx, hb, hml, hown, hts⟩ (c_X10_within l ((x0 - x0 / 8 * 8) + 1) 0 7) (va_cwS 3 hts gX10_beside_X10_within rfl rfl rfl (by decide +kernel) ⟨Nat.le_of_ble_eq_true rfl, Nat.le_of_ble_eq_true rfl⟩) rfl hl.1 rfl (Nat.le_of_ble_eq_true rfl) dX10_beside_53 ⟨Nat.le_of_ble_eq_true rfl, Nat.le_of_ble_eq_true rfl⟩ ?_
        refine lv_if_eq (tgt := 78) hx hb dX10_beside_56 (by decide) (fun c_21 => ?_) (fun c_21 => ?_)
        · replace c_21 := bI_f c_21
          refine lv_iconst (v := (-1)) hx hb dX10_beside_78 (by decide) ?_
          exact pret_i hx hb hr hlocks (by simp [m_bes, m_bx, m_by, c_1, c_19, c_20, c_21] <;> simp_all [m_bx, m_by]) dX10_beside_79
        · replace c_21 := bI_t c_21
          refine lv_iload_n hx hb dX10_beside_59 rfl (lv_at hl 0 rfl) ?_
          refine lv_iconst (v := 0) hx hb dX10_beside_60 (by decide) ?_
          refine lv_bipush (v := 7) hx hb dX10_beside_61 (by decide) ?_
          refine kS_i (As := [.int ((x0 / 8) + 0), .int 0, .int 7]) (rest := []) ⟨hx, hb, hml, hown, hts⟩ (c_X10_within l ((x0 / 8) + 0) 0 7) (va_cwS 3 hts gX10_beside_X10_within rfl rfl rfl (by decide +kernel) ⟨Nat.le_of_ble_eq_true rfl, Nat.le_of_ble_eq_true rfl⟩) rfl hl.1 rfl (Nat.le_of_ble_eq_true rfl) dX10_beside_63 ⟨Nat.le_of_ble_eq_true rfl, Nat.le_of_ble_eq_true rfl⟩ ?_
          refine lv_if_eq (tgt := 78) hx hb dX10_beside_66 (by decide) (fun c_22 => ?_) (fun c_22 => ?_)
          · replace c_22 := bI_f c_22
            refine lv_iconst (v := (-1)) hx hb dX10_beside_78 (by decide) ?_
            exact pret_i hx hb hr hlocks (by simp [m_bes, m_bx, m_by, c_1, c_19, c_20, c_21, c_22] <;> simp_all [m_bx, m_by]) dX10_beside_79
          · replace c_22 := bI_t c_22
            refine lv_bipush (v := 8) hx hb dX10_beside_69 (by decide) ?_
            refine lv_iload_n hx hb dX10_beside_71 rfl (lv_at hl 0 rfl) ?_
            refine lv_imul hx hb dX10_beside_72 ?_
            refine lv_iload_n hx hb dX10_beside_73 rfl (lv_at hl 1 rfl) ?_
            refine lv_iadd hx hb dX10_beside_74 ?_
            refine lv_goto (tgt := 79) hx hb dX10_beside_75 (by decide) ?_
            exact pret_i hx hb hr hlocks (by simp [m_bes, m_bx, m_by, c_1, c_19, c_20, c_21, c_22] <;> simp_all [m_bx, m_by]) dX10_beside_79
      · refine lv_iconst (v := (-1)) hx hb dX10_beside_42 (by decide) ?_
        refine lv_goto (tgt := 47) hx hb dX10_beside_43 (by decide) ?_
        refine lv_iadd hx hb dX10_beside_47 ?_
        refine lv_istore_n (lv' := [(3, .int ((x0 / 8) + (-1))), (2, .int ((x0 - x0 / 8 * 8) + 1)), (0, .int x0), (1, .int x1)]) hx hb dX10_beside_48 rfl hl (by decide) rfl (fun ls hl => ?_)
        refine lv_iload_n hx hb dX10_beside_49 rfl (lv_at hl 1 rfl) ?_
        refine lv_iconst (v := 0) hx hb dX10_beside_50 (by decide) ?_
        refine lv_bipush (v := 7) hx hb dX10_beside_51 (by decide) ?_
        refine kS_i (As := [.int ((x0 - x0 / 8 * 8) + 1), .int 0, .int 7]) (rest := []) ⟨hx, hb, hml, hown, hts⟩ (c_X10_within l ((x0 - x0 / 8 * 8) + 1) 0 7) (va_cwS 3 hts gX10_beside_X10_within rfl rfl rfl (by decide +kernel) ⟨Nat.le_of_ble_eq_true rfl, Nat.le_of_ble_eq_true rfl⟩) rfl hl.1 rfl (Nat.le_of_ble_eq_true rfl) dX10_beside_53 ⟨Nat.le_of_ble_eq_true rfl, Nat.le_of_ble_eq_true rfl⟩ ?_
        refine lv_if_eq (tgt := 78) hx hb dX10_beside_56 (by decide) (fun c_23 => ?_) (fun c_23 => ?_)
        · replace c_23 := bI_f c_23
          refine lv_iconst (v := (-1)) hx hb dX10_beside_78 (by decide) ?_
          exact pret_i hx hb hr hlocks (by simp [m_bes, m_bx, m_by, c_1, c_19, c_20, c_23] <;> simp_all [m_bx, m_by]) dX10_beside_79
        · replace c_23 := bI_t c_23
          refine lv_iload_n hx hb dX10_beside_59 rfl (lv_at hl 0 rfl) ?_
          refine lv_iconst (v := 0) hx hb dX10_beside_60 (by decide) ?_
          refine lv_bipush (v := 7) hx hb dX10_beside_61 (by decide) ?_
          refine kS_i (As := [.int ((x0 / 8) + (-1)), .int 0, .int 7]) (rest := []) ⟨hx, hb, hml, hown, hts⟩ (c_X10_within l ((x0 / 8) + (-1)) 0 7) (va_cwS 3 hts gX10_beside_X10_within rfl rfl rfl (by decide +kernel) ⟨Nat.le_of_ble_eq_true rfl, Nat.le_of_ble_eq_true rfl⟩) rfl hl.1 rfl (Nat.le_of_ble_eq_true rfl) dX10_beside_63 ⟨Nat.le_of_ble_eq_true rfl, Nat.le_of_ble_eq_true rfl⟩ ?_
          refine lv_if_eq (tgt := 78) hx hb dX10_beside_66 (by decide) (fun c_24 => ?_) (fun c_24 => ?_)
          · replace c_24 := bI_f c_24
            refine lv_iconst (v := (-1)) hx hb dX10_beside_78 (by decide) ?_
            exact pret_i hx hb hr hlocks (by simp [m_bes, m_bx, m_by, c_1, c_19, c_20, c_23, c_24] <;> simp_all [m_bx, m_by]) dX10_beside_79
          · replace c_24 := bI_t c_24
            refine lv_bipush (v := 8) hx hb dX10_beside_69 (by decide) ?_
            refine lv_iload_n hx hb dX10_beside_71 rfl (lv_at hl 0 rfl) ?_
            refine lv_imul hx hb dX10_beside_72 ?_
            refine lv_iload_n hx hb dX10_beside_73 rfl (lv_at hl 1 rfl) ?_
            refine lv_iadd hx hb dX10_beside_74 ?_
            refine lv_goto (tgt := 79) hx hb dX10_beside_75 (by decide) ?_
            exact pret_i hx hb hr hlocks (by simp [m_bes, m_bx, m_by, c_1, c_19, c_20, c_23, c_24] <;> simp_all [m_bx, m_by]) dX10_beside_79
    · refine lv_iconst (v := 1) hx hb dX10_beside_33 (by decide) ?_
      refine lv_goto (tgt := 47) hx hb dX10_beside_34 (by decide) ?_
      refine lv_iadd hx hb dX10_beside_47 ?_
      refine lv_istore_n (lv' := [(3, .int ((x0 / 8) + 1)), (2, .int ((x0 - x0 / 8 * 8) + 1)), (0, .int x0), (1, .int x1)]) hx hb dX10_beside_48 rfl hl (by decide) rfl (fun ls hl => ?_)
      refine lv_iload_n hx hb dX10_beside_49 rfl (lv_at hl 1 rfl) ?_
      refine lv_iconst (v := 0) hx hb dX10_beside_50 (by decide) ?_
      refine lv_bipush (v := 7) hx hb dX10_beside_51 (by decide) ?_
      refine kS_i (As := [.int ((x0 - x0 / 8 * 8) + 1), .int 0, .int 7]) (rest := []) ⟨hx, hb, hml, hown, hts⟩ (c_X10_within l ((x0 - x0 / 8 * 8) + 1) 0 7) (va_cwS 3 hts gX10_beside_X10_within rfl rfl rfl (by decide +kernel) ⟨Nat.le_of_ble_eq_true rfl, Nat.le_of_ble_eq_true rfl⟩) rfl hl.1 rfl (Nat.le_of_ble_eq_true rfl) dX10_beside_53 ⟨Nat.le_of_ble_eq_true rfl, Nat.le_of_ble_eq_true rfl⟩ ?_
      refine lv_if_eq (tgt := 78) hx hb dX10_beside_56 (by decide) (fun c_25 => ?_) (fun c_25 => ?_)
      · replace c_25 := bI_f c_25
        refine lv_iconst (v := (-1)) hx hb dX10_beside_78 (by decide) ?_
        exact pret_i hx hb hr hlocks (by simp [m_bes, m_bx, m_by, c_1, c_19, c_25] <;> simp_all [m_bx, m_by]) dX10_beside_79
      · replace c_25 := bI_t c_25
        refine lv_iload_n hx hb dX10_beside_59 rfl (lv_at hl 0 rfl) ?_
        refine lv_iconst (v := 0) hx hb dX10_beside_60 (by decide) ?_
        refine lv_bipush (v := 7) hx hb dX10_beside_61 (by decide) ?_
        refine kS_i (As := [.int ((x0 / 8) + 1), .int 0, .int 7]) (rest := []) ⟨hx, hb, hml, hown, hts⟩ (c_X10_within l ((x0 / 8) + 1) 0 7) (va_cwS 3 hts gX10_beside_X10_within rfl rfl rfl (by decide +kernel) ⟨Nat.le_of_ble_eq_true rfl, Nat.le_of_ble_eq_true rfl⟩) rfl hl.1 rfl (Nat.le_of_ble_eq_true rfl) dX10_beside_63 ⟨Nat.le_of_ble_eq_true rfl, Nat.le_of_ble_eq_true rfl⟩ ?_
        refine lv_if_eq (tgt := 78) hx hb dX10_beside_66 (by decide) (fun c_26 => ?_) (fun c_26 => ?_)
        · replace c_26 := bI_f c_26
          refine lv_iconst (v := (-1)) hx hb dX10_beside_78 (by decide) ?_
          exact pret_i hx hb hr hlocks (by simp [m_bes, m_bx, m_by, c_1, c_19, c_25, c_26] <;> simp_all [m_bx, m_by]) dX10_beside_79
        · replace c_26 := bI_t c_26
          refine lv_bipush (v := 8) hx hb dX10_beside_69 (by decide) ?_
          refine lv_iload_n hx hb dX10_beside_71 rfl (lv_at hl 0 rfl) ?_
          refine lv_imul hx hb dX10_beside_72 ?_
          refine lv_iload_n hx hb dX10_beside_73 rfl (lv_at hl 1 rfl) ?_
          refine lv_iadd hx hb dX10_beside_74 ?_
          refine lv_goto (tgt := 79) hx hb dX10_beside_75 (by decide) ?_
          exact pret_i hx hb hr hlocks (by simp [m_bes, m_bx, m_by, c_1, c_19, c_25, c_26] <;> simp_all [m_bx, m_by]) dX10_beside_79
