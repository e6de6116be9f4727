def UN (fl : Int64) (f : Nat) (mate : Nat → Int32) : Prop := ∀ d, d < 64 → f ≤ d → dk fl d → mate d = -1
def WL (fl : Int64) (f tm : Nat) (v : Int32) (mate frm : Nat → Int32) : Prop := RG mate ∧ UN fl (f + 1) mate ∧ ((v = -1 ∧ SYx mate 64) ∨ ∃ (g : Nat) (T : Nat → Nat) (P : Nat → Prop), g < 64 ∧ v = nI g ∧ P g ∧ T g < tm ∧ SYx mate g ∧ CH fl (nI f) T P frm mate (T g))
def WS (fl : Int64) (f g d : Nat) (T : Nat → Nat) (P : Nat → Prop) (mate frm : Nat → Int32) : Prop := RG mate ∧ UN fl (f + 1) mate ∧ P g ∧ SYx mate g ∧ CH fl (nI f) T P frm mate (T g) ∧ ¬ dk fl g ∧ dk fl d ∧ T d < T g ∧ ((mate d = -1 ∧ (nI d = nI f ∨ nI f < 0)) ∨ ∃ h2, mate d = nI h2 ∧ P h2 ∧ T h2 < T d)
theorem un_s {fl : Int64} {f : Nat} {mate : Nat → Int32} (h : UN fl f mate) : UN fl (f + 1) mate := fun d hd hf hk => h d hd (Nat.le_of_succ_le hf) hk
theorem mt_0 {mate : Nat → Int32} {i : Nat} (e : i = 64) (h : ∀ k, k < i → mate k = -1) : RG mate ∧ SYx mate 64 ∧ ∀ (fl : Int64) (f : Nat), UN fl f mate := by
  subst e
  refine ⟨fun k hk => Or.inl (h k hk), ⟨fun k x hk hx _ z => ?_, fun k hk z => absurd z (by decide)⟩, fun fl f d hd _ _ => h d hd⟩
  rw [h k hk] at z
  exact absurd z.symm (nI_m1 ⟨x, hx⟩)
theorem mt_up {mate : Nat → Int32} {i : Nat} (hi : i < 64) (h : ∀ k, k < i → mate k = -1) : ∀ k, k < i + 1 → upd mate (nI i).toNatClampNeg (-1) k = -1 := by
  rw [nI_clamp (Nat.lt_trans hi (by decide))]
  intro k hk
  by_cases z : k = i
  · rw [z, pk_us]
  · rw [pk_un z]
    exact h k (Nat.lt_of_le_of_ne (Nat.le_of_lt_succ hk) z)
theorem sf_wl {fl : Int64} {f : Nat} {r : Int32} {mate frm : Nat → Int32} (h : sfOk fl (nI f) frm mate r) (h1 : RG mate) (h2 : SYx mate 64) (h3 : UN fl f mate) : ∃ tm, WL fl f tm r mate frm := by
  rcases h with h | ⟨g, hg, hr, hm, T, P, hP, hC⟩
  · exact ⟨0, h1, un_s h3, Or.inl ⟨h, h2⟩⟩
  · refine ⟨T g + 1, h1, un_s h3, Or.inr ⟨g, T, P, hg, hr, hP, Nat.lt_succ_self _, ⟨fun k x hk hx _ z => h2.1 k x hk hx (Nat.ne_of_lt hk) z, fun k hk _ z => ?_⟩, hC⟩⟩
    have e := h2.1 k g hk hg (Nat.ne_of_lt hk) z
    rw [hm] at e
    exact nI_m1 ⟨k, hk⟩ e.symm
theorem wl_pos {fl : Int64} {f tm : Nat} {v : Int32} {mate frm : Nat → Int32} (h : WL fl f tm v mate frm) (q : ¬ v < 0) : ∃ (g d : Nat) (T : Nat → Nat) (P : Nat → Prop), g < 64 ∧ d < 64 ∧ v = nI g ∧ T g < tm ∧ frm g = nI d ∧ WS fl f g d T P mate frm := by
  obtain ⟨h1, h2, h3 | ⟨g, T, P, hg, hv, hP, ht, hS, hC⟩⟩ := h
  · rw [h3.1] at q
    exact absurd (by decide) q
  · obtain ⟨c1, c2, d, c3, c4, c5, c6, c7⟩ := hC g hP (Nat.le_refl _)
    exact ⟨g, d, T, P, hg, c3, hv, ht, c5, h1, h2, hP, hS, hC, c2, c4, c6, c7⟩
theorem wl_end {fl : Int64} {f tm : Nat} {v : Int32} {mate frm : Nat → Int32} (h : WL fl f tm v mate frm) (q : v < 0) : RG mate ∧ SYx mate 64 ∧ UN fl (f + 1) mate := by
  obtain ⟨h1, h2, h3 | ⟨g, T, P, hg, hv, hP, ht, hS, hC⟩⟩ := h
  · exact ⟨h1, h3.2, h2⟩
  · rw [hv] at q
    exact absurd q (nI_nn ⟨g, hg⟩)
theorem ws_eq {d g : Nat} {mate : Nat → Int32} (hdg : d ≠ g) : upd (upd mate d (nI g)) g (nI d) g = nI d ∧ upd (upd mate d (nI g)) g (nI d) d = nI g ∧ ∀ k, k ≠ d → k ≠ g → upd (upd mate d (nI g)) g (nI d) k = mate k := by
  refine ⟨pk_us, ?_, fun k h1 h2 => ?_⟩
  · rw [pk_un hdg, pk_us]
  · rw [pk_un h2, pk_un h1]
theorem ws_sy {fl : Int64} {f g d e : Nat} {T : Nat → Nat} {P : Nat → Prop} {mate frm m2 : Nat → Int32} (hg : g < 64) (hd : d < 64) (hS : SYx mate g) (hdg : d ≠ g) (e1 : m2 g = nI d) (e2 : m2 d = nI g) (e3 : ∀ k, k ≠ d → k ≠ g → m2 k = mate k) (he : ∀ h, h < 64 → mate d = nI h → h = e) : ∀ h x, h < 64 → x < 64 → h ≠ e → m2 h = nI x → m2 x = nI h := by
  intro h x hh hx hne z
  by_cases q : h = g
  · subst q
    rw [e1] at z
    rw [← nI_i64 hd hx z]
    exact e2
  · by_cases q2 : h = d
    · subst q2
      rw [e2] at z
      rw [← nI_i64 hg hx z]
      exact e1
    · rw [e3 h q2 q] at z
      have y := hS.1 h x hh hx q z
      by_cases q3 : x = g
      · subst q3
        exact absurd z (hS.2 h hh hx)
      · by_cases q4 : x = d
        · subst q4
          exact absurd (he h hh y) hne
        · rw [e3 x q4 q3]
          exact y
theorem ws_step {fl : Int64} {f g d : Nat} {T : Nat → Nat} {P : Nat → Prop} {mate frm : Nat → Int32} (hf : f < 64) (hg : g < 64) (hd : d < 64) (h : WS fl f g d T P mate frm) : WL fl f (T g) (mate d) (upd (upd mate d (nI g)) g (nI d)) frm := by
  obtain ⟨h1, h2, hP, hS, hC, hng, hkd, htd, alt⟩ := h
  have hdg : d ≠ g := fun z => Nat.lt_irrefl _ (z ▸ htd)
  obtain ⟨e1, e2, e3⟩ := ws_eq (mate := mate) hdg
  generalize upd (upd mate d (nI g)) g (nI d) = m2 at e1 e2 e3 ⊢
  refine ⟨fun k hk => ?_, fun k hk hfk hkk => ?_, ?_⟩
  · by_cases q : k = g
    · rw [q, e1]; exact Or.inr ⟨d, hd, rfl⟩
    · by_cases q2 : k = d
      · rw [q2, e2]; exact Or.inr ⟨g, hg, rfl⟩
      · rw [e3 k q2 q]; exact h1 k hk
  · have q : k ≠ g := fun z => hng (z ▸ hkk)
    have q2 : k ≠ d := fun z => by
      subst z
      rcases alt with ⟨m1, m2 | m2⟩ | ⟨h2', m1, p2, l2⟩
      · have := nI_i64 hk hf m2
        exact Nat.lt_irrefl _ (this ▸ hfk)
      · exact absurd m2 (nI_nn ⟨f, hf⟩)
      · rw [h2 k hk hfk hkk] at m1
        exact nI_m1 ⟨h2', (hC h2' p2 (Nat.le_of_lt (Nat.lt_trans l2 htd))).1⟩ m1.symm
    rw [e3 k q2 q]
    exact h2 k hk hfk hkk
  · rcases alt with ⟨m1, -⟩ | ⟨h2', m1, p2, l2⟩
    · refine Or.inl ⟨m1, ws_sy (fl := fl) (f := f) (T := T) (P := P) (frm := frm) hg hd hS hdg e1 e2 e3 (fun x hx z => ?_), fun k hk z => absurd z (by decide)⟩
      rw [m1] at z
      exact absurd z.symm (nI_m1 ⟨x, hx⟩)
    · have hh2 := (hC h2' p2 (Nat.le_of_lt (Nat.lt_trans l2 htd))).1
      refine Or.inr ⟨h2', T, P, hh2, m1, p2, Nat.lt_trans l2 htd, ⟨ws_sy (fl := fl) (f := f) (T := T) (P := P) (frm := frm) hg hd hS hdg e1 e2 e3 (fun x hx z => ?_), fun k hk _ z => ?_⟩, fun k hk hkt => ?_⟩
      · rw [m1] at z
        exact (nI_i64 hh2 hx z).symm
      · by_cases q : k = g
        · subst q
          rw [e1] at z
          rw [nI_i64 hd hh2 z] at l2
          exact Nat.lt_irrefl _ l2
        · by_cases q2 : k = d
          · subst q2
            rw [e2] at z
            rw [nI_i64 hg hh2 z] at htd
            exact Nat.lt_irrefl _ (Nat.lt_trans l2 htd)
          · rw [e3 k q2 q] at z
            have y1 := hS.1 k h2' hk hh2 q z
            have y2 := hS.1 d h2' hd hh2 hdg m1
            rw [y1] at y2
            exact q2 (nI_i64 hk hd y2)
      · obtain ⟨c1, c2, x, c3, c4, c5, c6, c7⟩ := hC k hk (Nat.le_trans hkt (Nat.le_of_lt (Nat.lt_trans l2 htd)))
        have l3 : T x < T d := Nat.lt_trans (Nat.lt_of_lt_of_le c6 hkt) l2
        have q2 : x ≠ d := fun z => Nat.lt_irrefl _ (z ▸ l3)
        have q : x ≠ g := fun z => Nat.lt_irrefl _ (Nat.lt_trans (z ▸ l3) htd)
        refine ⟨c1, c2, x, c3, c4, c5, c6, ?_⟩
        rw [e3 x q2 q]
        exact c7
theorem ws_step2 {fl : Int64} {f g d : Nat} {T : Nat → Nat} {P : Nat → Prop} {mate frm : Nat → Int32} (hf : f < 64) (hg : g < 64) (hd : d < 64) (h : WS fl f g d T P mate frm) : WL fl f (T g) (mate (nI d).toNatClampNeg) (upd (upd mate (nI d).toNatClampNeg (nI g)) (nI g).toNatClampNeg (nI d)) frm := by
  rw [nI_clamp (Nat.lt_trans hd (by decide)), nI_clamp (Nat.lt_trans hg (by decide))]
  exact ws_step hf hg hd h
theorem hst_f {fl : Int64} {f : Nat} {mate : Nat → Int32} (h : UN fl f mate) (hf : f < 64) (hk : m_darkF fl (nI f) = true) : ∀ d, d < 64 → nI d = nI f → mate d = -1 := by
  intro d hd z
  rw [nI_i64 hd hf z]
  exact h f hf (Nat.le_refl _) hk
theorem dX10_match_60 : decode cX10_match 60 = .ok (.iload_n 3, 1) := by decide +kernel
theorem dX10_match_61 : decode cX10_match 61 = .ok (.ifCond .lt 42, 3) := by decide +kernel
theorem dX10_match_103 : decode cX10_match 103 = .ok (.iinc 2 1, 3) := by decide +kernel
theorem dX10_match_106 : decode cX10_match 106 = .ok (.goto (-81), 3) := by decide +kernel
theorem dX10_match_64 : decode cX10_match 64 = .ok (.aload_n 0, 1) := by decide +kernel
theorem dX10_match_65 : decode cX10_match 65 = .ok (.getfield 60, 3) := by decide +kernel
theorem dX10_match_68 : decode cX10_match 68 = .ok (.iload_n 3, 1) := by decide +kernel
theorem dX10_match_69 : decode cX10_match 69 = .ok (.iaload, 1) := by decide +kernel
theorem dX10_match_70 : decode cX10_match 70 = .ok (.istore 4, 2) := by decide +kernel
theorem dX10_match_72 : decode cX10_match 72 = .ok (.aload_n 0, 1) := by decide +kernel
theorem dX10_match_73 : decode cX10_match 73 = .ok (.getfield 54, 3) := by decide +kernel
theorem dX10_match_76 : decode cX10_match 76 = .ok (.iload 4, 2) := by decide +kernel
theorem dX10_match_78 : decode cX10_match 78 = .ok (.iaload, 1) := by decide +kernel
theorem dX10_match_79 : decode cX10_match 79 = .ok (.istore 5, 2) := by decide +kernel
theorem dX10_match_81 : decode cX10_match 81 = .ok (.aload_n 0, 1) := by decide +kernel
theorem dX10_match_82 : decode cX10_match 82 = .ok (.getfield 54, 3) := by decide +kernel
theorem dX10_match_85 : decode cX10_match 85 = .ok (.iload 4, 2) := by decide +kernel
theorem dX10_match_87 : decode cX10_match 87 = .ok (.iload_n 3, 1) := by decide +kernel
theorem dX10_match_88 : decode cX10_match 88 = .ok (.iastore, 1) := by decide +kernel
theorem dX10_match_89 : decode cX10_match 89 = .ok (.aload_n 0, 1) := by decide +kernel
theorem dX10_match_90 : decode cX10_match 90 = .ok (.getfield 54, 3) := by decide +kernel
theorem dX10_match_93 : decode cX10_match 93 = .ok (.iload_n 3, 1) := by decide +kernel
theorem dX10_match_94 : decode cX10_match 94 = .ok (.iload 4, 2) := by decide +kernel
theorem dX10_match_96 : decode cX10_match 96 = .ok (.iastore, 1) := by decide +kernel
theorem dX10_match_97 : decode cX10_match 97 = .ok (.iload 5, 2) := by decide +kernel
theorem dX10_match_99 : decode cX10_match 99 = .ok (.istore_n 3, 1) := by decide +kernel
theorem dX10_match_100 : decode cX10_match 100 = .ok (.goto (-40), 3) := by decide +kernel
theorem dX10_match_25 : decode cX10_match 25 = .ok (.iload_n 2, 1) := by decide +kernel
theorem dX10_match_26 : decode cX10_match 26 = .ok (.bipush 64, 2) := by decide +kernel
theorem dX10_match_28 : decode cX10_match 28 = .ok (.if_icmp .ge 81, 3) := by decide +kernel
theorem dX10_match_109 : decode cX10_match 109 = .ok (.iload_n 1, 1) := by decide +kernel
theorem dX10_match_110 : decode cX10_match 110 = .ok (.ireturn, 1) := by decide +kernel
theorem dX10_match_31 : decode cX10_match 31 = .ok (.aload_n 0, 1) := by decide +kernel
theorem dX10_match_32 : decode cX10_match 32 = .ok (.iload_n 2, 1) := by decide +kernel
set_option maxRecDepth 20000 in
theorem ggX10_match_X10_isDarkField : GoodIn wsX10_match wsX10_isDarkField := goodIn_r _ [7, 8, 9, 10, 6, 11, 12, 13, 14, 26, 27, 28, 29, 30, 31, 32, 33, 34, 35, 36, 37, 38, 39, 40, 41, 42, 43, 44, 45, 46, 47, 48, 49, 50, 51, 52, 53, 54, 55] rfl (by decide +kernel)
set_option maxRecDepth 20000 in
theorem gX10_match_X10_isDarkField : GoodIn wsX10_match (wsV RX10 286 RX10 yX10_isDarkField wsX10_isDarkField) := goodIn_app (goodIn_r _ [3, 4, 5, 6] rfl (by decide +kernel)) ggX10_match_X10_isDarkField
theorem dX10_match_33 : decode cX10_match 33 = .ok (.invokevirtual 286, 3) := by decide +kernel
theorem dX10_match_36 : decode cX10_match 36 = .ok (.ifCond .ne 6, 3) := by decide +kernel
theorem dX10_match_42 : decode cX10_match 42 = .ok (.aload_n 0, 1) := by decide +kernel
theorem dX10_match_43 : decode cX10_match 43 = .ok (.iload_n 2, 1) := by decide +kernel
set_option maxRecDepth 20000 in
theorem ggX10_match_X10_spreadFrom : GoodIn wsX10_match wsX10_spreadFrom := goodIn_r _ [18, 19, 1, 8, 2, 3, 4, 5, 6, 7, 9, 10, 11, 12, 13, 14, 20, 21, 22, 23, 24, 25, 26, 27, 28, 29, 30, 31, 32, 33, 34, 35, 36, 37, 38, 39, 40, 41, 42, 43, 44, 45, 46, 47, 48, 49, 50, 51, 52, 53, 54, 55] rfl (by decide +kernel)
set_option maxRecDepth 20000 in
theorem gX10_match_X10_spreadFrom : GoodIn wsX10_match (wsV RX10 292 RX10 yX10_spreadFrom wsX10_spreadFrom) := goodIn_app (goodIn_r _ [15, 16, 17, 6] rfl (by decide +kernel)) ggX10_match_X10_spreadFrom
theorem dX10_match_44 : decode cX10_match 44 = .ok (.invokevirtual 292, 3) := by decide +kernel
theorem dX10_match_47 : decode cX10_match 47 = .ok (.istore_n 3, 1) := by decide +kernel
theorem dX10_match_48 : decode cX10_match 48 = .ok (.iload_n 1, 1) := by decide +kernel
theorem dX10_match_49 : decode cX10_match 49 = .ok (.iload_n 3, 1) := by decide +kernel
theorem dX10_match_50 : decode cX10_match 50 = .ok (.ifCond .ge 7, 3) := by decide +kernel
theorem dX10_match_57 : decode cX10_match 57 = .ok (.iconst 0, 1) := by decide +kernel
theorem dX10_match_58 : decode cX10_match 58 = .ok (.iadd, 1) := by decide +kernel
theorem dX10_match_59 : decode cX10_match 59 = .ok (.istore_n 1, 1) := by decide +kernel
theorem dX10_match_53 : decode cX10_match 53 = .ok (.iconst 1, 1) := by decide +kernel
theorem dX10_match_54 : decode cX10_match 54 = .ok (.goto 4, 3) := by decide +kernel
theorem dX10_match_39 : decode cX10_match 39 = .ok (.goto 64, 3) := by decide +kernel
theorem dX10_match_2 : decode cX10_match 2 = .ok (.iload_n 1, 1) := by decide +kernel
theorem dX10_match_3 : decode cX10_match 3 = .ok (.bipush 64, 2) := by decide +kernel
theorem dX10_match_5 : decode cX10_match 5 = .ok (.if_icmp .ge 16, 3) := by decide +kernel
theorem dX10_match_21 : decode cX10_match 21 = .ok (.iconst 0, 1) := by decide +kernel
theorem dX10_match_22 : decode cX10_match 22 = .ok (.istore_n 1, 1) := by decide +kernel
theorem dX10_match_23 : decode cX10_match 23 = .ok (.iconst 0, 1) := by decide +kernel
theorem dX10_match_24 : decode cX10_match 24 = .ok (.istore_n 2, 1) := by decide +kernel
theorem dX10_match_8 : decode cX10_match 8 = .ok (.aload_n 0, 1) := by decide +kernel
theorem dX10_match_9 : decode cX10_match 9 = .ok (.getfield 54, 3) := by decide +kernel
theorem dX10_match_12 : decode cX10_match 12 = .ok (.iload_n 1, 1) := by decide +kernel
theorem dX10_match_13 : decode cX10_match 13 = .ok (.iconst (-1), 1) := by decide +kernel
theorem dX10_match_14 : decode cX10_match 14 = .ok (.iastore, 1) := by decide +kernel
theorem dX10_match_15 : decode cX10_match 15 = .ok (.iinc 1 1, 3) := by decide +kernel
theorem dX10_match_18 : decode cX10_match 18 = .ok (.goto (-16), 3) := by decide +kernel
theorem dX10_match_0 : decode cX10_match 0 = .ok (.iconst 0, 1) := by decide +kernel
theorem dX10_match_1 : decode cX10_match 1 = .ok (.istore_n 1, 1) := by decide +kernel
set_option maxRecDepth 20000 in
theorem ihX10_match_10 : ∀ w ∈ u_ws RX10 TX10 30, w ∈ wsX10_match := fun _ h => List.mem_cons_of_mem _ (List.mem_append_right _ h)
set_option maxHeartbeats 4000000 in
set_option maxRecDepth 100000 in
theorem t_X10_match (l : Launch) (D : va_G) (cy : Nat → ClassId) (a : Nat → Nat) (sz : Nat) (J : Nat → Int64) (I : Nat → Int32) (R : Nat → Nat → Int32) (RJ : Nat → Nat → Int64)  : Met l yX10_match wsX10_match ({ frames := 3, cells := 0, slots := 0, locals := 70 }) (va_Pc [.ref (a 0)] (PW D cy sz (MW cy a J I R RJ))) (va_Qi (fun r (u : MS) => ∃ (w0 : Nat → Int32), ∃ (w1 : Nat → Int32), ∃ (w2 : Nat → Int32), ((RG w0) ∧ (SYx w0 64)) ∧ u = (J, I, (va_up (va_up (va_up R 15 w0) 16 w1) 17 w2), RJ)) (BW D (va_A (MW cy a J I R RJ) sz) (MWu cy a)) (va_A (MW cy a J I R RJ) sz)) 0 0 (va_A (MW cy a J I R RJ) sz) := by
  refine Met.ofW (cc := cX10_match) (maxL := 6) (ret := (some .int)) (by decide) rfl ?_
  intro p e s m args below meth c s₁ B hml hv
  obtain ⟨rfl, rfl, hP, hK, hN, hD0⟩ := hv
  have hx := B.exec
  have hb := B.bytes
  have hr := B.returns
  have hts := atoms_spec (ws := wsX10_match) B.pre
  have hown : s.vm.findClass RX10 = some m.cls := findClass_of_methodNamed B.named
  have hlocks := B.notSynchronized
  have hw0 := hts (.fieldLink RX10 60 "ParquetLayerModel" "from" "[I") (by decide +kernel)
  have hw1 := hts (.fieldLink RX10 54 "ParquetLayerModel" "mate" "[I") (by decide +kernel)
  have hi10 := ihX10_match_10
  have hD := hD0.self (sz := s.heap.size)
  generalize hAe : va_A (MW cy a J I R RJ) s.heap.size = A at hD ⊢
  have hA : ∀ q : Nat, s.heap.size ≤ q → A q := fun q h => by rw [← hAe]; exact Or.inr h
  have hS : va_S A s.heap s.heap [] := va_S.rf
  have hl := lv_entry ([.ref (a 0)]) (n := 6) (Nat.le_of_ble_eq_true rfl)
  rw [lg_entry_eq]
  generalize (lg_sl ([.ref (a 0)]) ++ List.replicate (6 - (lg_sl ([.ref (a 0)])).length) Slot.unset).toArray = ls at hl ⊢
  have hl : lv_has ls 6 [(0, .ref (a 0))] := hl
  have hP : va_P D vwCl (MW cy a J I (va_up (va_up (va_up R 15 (R 15)) 16 (R 16)) 17 (R 17)) RJ) s.heap := hP
  have hD : va_D A (MW cy a J I (va_up (va_up (va_up R 15 (R 15)) 16 (R 16)) 17 (R 17)) RJ) := hD
  have lp25 : ∀ (n25 : Nat), ∀ (f9 : Nat) (v1_25 : Int32) (m0_25 : Nat → Int32) (m1_25 : Nat → Int32) (m2_25 : Nat → Int32), (f9 ≤ 64) → (RG m0_25) → (SYx m0_25 64) → (UN (J 0) f9 m0_25) → (64 - f9) < n25 → ∀ (H : Heap) (locs : List Loc), va_P D vwCl (MW cy a J I (va_up (va_up (va_up R 15 m0_25) 16 m1_25) 17 m2_25) RJ) H → va_D A (MW cy a J I (va_up (va_up (va_up R 15 m0_25) 16 m1_25) 17 m2_25) RJ) → va_S A s.heap H locs → ∀ (ls : Array Slot), lv_has ls 6 [(0, .ref (a 0)), (1, .int v1_25), (2, .int (nI f9))] → W p l e (headSpec wsX10_match ({ frames := 3, cells := 0, slots := 0, locals := 70 })).room s m ([.ref (a 0)] : List Value).toArray below meth c H locs 0 0 (MQ below (va_Qi (fun r (u : MS) => ∃ (w0 : Nat → Int32), ∃ (w1 : Nat → Int32), ∃ (w2 : Nat → Int32), ((RG w0) ∧ (SYx w0 64)) ∧ u = (J, I, (va_up (va_up (va_up R 15 w0) 16 w1) 17 w2), RJ)) (BW D A (MWu cy a)) A) ([.ref (a 0)] : List Value).toArray s 0 0 A) (F0 m 25 ls []) := by
    intro n25
    induction n25 with
    | zero => intro f9 v1_25 m0_25 m1_25 m2_25 hf9 hrg hsy hun hn; exact absurd hn (Nat.not_lt_zero _)
    | succ n25 ih25 =>
      intro f9 v1_25 m0_25 m1_25 m2_25 hf9 hrg hsy hun hn25 H locs hP hD hS ls hl
      have lp60 : ∀ (n60 : Nat), ∀ (tm : Nat) (v1_60 : Int32) (v3_60 : Int32) (m0_60 : Nat → Int32) (m1_60 : Nat → Int32) (m2_60 : Nat → Int32), (f9 < 64) → (WL (J 0) f9 tm v3_60 m0_60 m2_60) → tm < n60 → ∀ (H : Heap) (locs : List Loc), va_P D vwCl (MW cy a J I (va_up (va_up (va_up R 15 m0_60) 16 m1_60) 17 m2_60) RJ) H → va_D A (MW cy a J I (va_up (va_up (va_up R 15 m0_60) 16 m1_60) 17 m2_60) RJ) → va_S A s.heap H locs → ∀ (ls : Array Slot), lv_has ls 6 [(0, .ref (a 0)), (1, .int v1_60), (2, .int (nI f9)), (3, .int v3_60)] → W p l e (headSpec wsX10_match ({ frames := 3, cells := 0, slots := 0, locals := 70 })).room s m ([.ref (a 0)] : List Value).toArray below meth c H locs 0 0 (MQ below (va_Qi (fun r (u : MS) => ∃ (w0 : Nat → Int32), ∃ (w1 : Nat → Int32), ∃ (w2 : Nat → Int32), ((RG w0) ∧ (SYx w0 64)) ∧ u = (J, I, (va_up (va_up (va_up R 15 w0) 16 w1) 17 w2), RJ)) (BW D A (MWu cy a)) A) ([.ref (a 0)] : List Value).toArray s 0 0 A) (F0 m 60 ls []) := by
        intro n60
        induction n60 with
        | zero => intro tm v1_60 v3_60 m0_60 m1_60 m2_60 hlt_f9 hwl hn; exact absurd hn (Nat.not_lt_zero _)
        | succ n60 ih60 =>
          intro tm v1_60 v3_60 m0_60 m1_60 m2_60 hlt_f9 hwl hn60 H locs hP hD hS ls hl
          refine lv_iload_n hx hb dX10_match_60 rfl (lv_at hl 3 rfl) ?_
          refine lv_if_lt (tgt := 103) hx hb dX10_match_61 (by decide) (fun c_1 => ?_) (fun c_1 => ?_)
          · have hwe := wl_end hwl c_1
            refine lv_iinc (v := nI (f9 + 1)) (lv' := [(2, .int (nI (f9 + 1))), (0, .ref (a 0)), (1, .int v1_60), (3, .int v3_60)]) hx hb dX10_match_103 hl (k := 2) rfl (nI_1 _) (by decide) rfl (fun ls hl => ?_)
            refine lv_goto (tgt := 25) hx hb dX10_match_106 (by decide) ?_
            exact ih25 (f9 + 1) v1_60 m0_60 m1_60 m2_60 hlt_f9 hwe.1 hwe.2.1 hwe.2.2 (lt_dec hlt_f9 hn25) _ _ hP hD hS ls (lv_sub hl [1, 2, 0] rfl)
          · obtain ⟨g9, d9, T9, P9, hg9, hd9, rfl, hTg, hfd, hws⟩ := wl_pos hwl c_1
            refine lv_aload_n hx hb dX10_match_64 rfl (lv_at hl 0 rfl) ?_
            refine va_get (D := D) (ci := 9) (v := .ref (a 17)) (C := RX10) (T := TX10) (N := 30) hx hb hts hi10 hown hK hP 0 rfl rfl 28 (by decide) hw0 (fun _ h9 => h9) rfl dX10_match_65 ?_
            refine lv_iload_n hx hb dX10_match_68 rfl (lv_at hl 3 rfl) ?_
            refine va_iald hx hb hK hP 17 0 rfl rfl (vp_in_nI hg9 (by decide)) dX10_match_69 ?_
            refine wtop_i (y := nI d9) (by rw [nI_clamp (Nat.lt_trans hg9 (by decide))]; exact hfd) ?_
            refine lv_istore (lv' := [(4, .int (nI d9)), (0, .ref (a 0)), (1, .int v1_60), (2, .int (nI f9)), (3, .int (nI g9))]) hx hb dX10_match_70 hl (by decide) rfl (fun ls hl => ?_)
            refine lv_aload_n hx hb dX10_match_72 rfl (lv_at hl 1 rfl) ?_
            refine va_get (D := D) (ci := 9) (v := .ref (a 15)) (C := RX10) (T := TX10) (N := 30) hx hb hts hi10 hown hK hP 0 rfl rfl 26 (by decide) hw1 (fun _ h9 => h9) rfl dX10_match_73 ?_
            refine lv_iload hx hb dX10_match_76 (lv_at hl 0 rfl) ?_
            refine va_iald hx hb hK hP 15 0 rfl rfl (vp_in_nI hd9 (by decide)) dX10_match_78 ?_
            refine lv_istore (lv' := [(5, .int (m0_60 (nI d9).toNatClampNeg)), (4, .int (nI d9)), (0, .ref (a 0)), (1, .int v1_60), (2, .int (nI f9)), (3, .int (nI g9))]) hx hb dX10_match_79 hl (by decide) rfl (fun ls hl => ?_)
            refine lv_aload_n hx hb dX10_match_81 rfl (lv_at hl 2 rfl) ?_
            refine va_get (D := D) (ci := 9) (v := .ref (a 15)) (C := RX10) (T := TX10) (N := 30) hx hb hts hi10 hown hK hP 0 rfl rfl 26 (by decide) hw1 (fun _ h9 => h9) rfl dX10_match_82 ?_
            refine lv_iload hx hb dX10_match_85 (lv_at hl 1 rfl) ?_
            refine lv_iload_n hx hb dX10_match_87 rfl (lv_at hl 5 rfl) ?_
            refine va_iast hx hb hK hP hD hS 15 0 rfl rfl (vp_in_nI hd9 (by decide)) dX10_match_88 (fun H locs hP hD hS => ?_)
            have hP : va_P D vwCl (MW cy a J I (va_up (va_up (va_up R 15 (upd m0_60 (nI d9).toNatClampNeg (nI g9))) 16 m1_60) 17 m2_60) RJ) H := hP
            have hD : va_D A (MW cy a J I (va_up (va_up (va_up R 15 (upd m0_60 (nI d9).toNatClampNeg (nI g9))) 16 m1_60) 17 m2_60) RJ) := hD
            obtain ⟨U9, hU9⟩ : ∃ z, z = (upd m0_60 (nI d9).toNatClampNeg (nI g9)) := ⟨_, rfl⟩
            rw [← hU9] at hP hD
            have hP : va_P D vwCl (MW cy a J I (va_up (va_up (va_up R 15 U9) 16 m1_60) 17 m2_60) RJ) H := hP
            have hD : va_D A (MW cy a J I (va_up (va_up (va_up R 15 U9) 16 m1_60) 17 m2_60) RJ) := hD
            refine lv_aload_n hx hb dX10_match_89 rfl (lv_at hl 2 rfl) ?_
            refine va_get (D := D) (ci := 9) (v := .ref (a 15)) (C := RX10) (T := TX10) (N := 30) hx hb hts hi10 hown hK hP 0 rfl rfl 26 (by decide) hw1 (fun _ h9 => h9) rfl dX10_match_90 ?_
            refine lv_iload_n hx hb dX10_match_93 rfl (lv_at hl 5 rfl) ?_
            refine lv_iload hx hb dX10_match_94 (lv_at hl 1 rfl) ?_
            refine va_iast hx hb hK hP hD hS 15 0 rfl rfl (vp_in_nI hg9 (by decide)) dX10_match_96 (fun H locs hP hD hS => ?_)
            have hP : va_P D vwCl (MW cy a J I (va_up (va_up (va_up R 15 (upd U9 (nI g9).toNatClampNeg (nI d9))) 16 m1_60) 17 m2_60) RJ) H := hP
            have hD : va_D A (MW cy a J I (va_up (va_up (va_up R 15 (upd U9 (nI g9).toNatClampNeg (nI d9))) 16 m1_60) 17 m2_60) RJ) := hD
            refine lv_iload hx hb dX10_match_97 (lv_at hl 0 rfl) ?_
            refine lv_istore_n (lv' := [(3, .int (m0_60 (nI d9).toNatClampNeg)), (5, .int (m0_60 (nI d9).toNatClampNeg)), (4, .int (nI d9)), (0, .ref (a 0)), (1, .int v1_60), (2, .int (nI f9))]) hx hb dX10_match_99 rfl hl (by decide) rfl (fun ls hl => ?_)
            refine lv_goto (tgt := 60) hx hb dX10_match_100 (by decide) ?_
            exact ih60 (T9 g9) v1_60 (m0_60 (nI d9).toNatClampNeg) (upd U9 (nI g9).toNatClampNeg (nI d9)) m1_60 m2_60 hlt_f9 (by rw [hU9]; exact ws_step2 hlt_f9 hg9 hd9 hws) (Nat.lt_of_lt_of_le hTg (Nat.le_of_lt_succ hn60)) _ _ hP hD hS ls (lv_sub hl [3, 4, 5, 0] rfl)
      refine lv_iload_n hx hb dX10_match_25 rfl (lv_at hl 2 rfl) ?_
      refine lv_bipush (v := 64) hx hb dX10_match_26 (by decide) ?_
      refine lv_icmp_ge (tgt := 109) hx hb dX10_match_28 (by decide) (fun c_2 => ?_) (fun c_2 => ?_)
      · refine lv_iload_n hx hb dX10_match_109 rfl (lv_at hl 1 rfl) ?_
        exact wret_i hx hb hr hlocks (J, I, (va_up (va_up (va_up R 15 m0_25) 16 m1_25) 17 m2_25), RJ) ⟨m0_25, m1_25, m2_25, ⟨hrg, hsy⟩, rfl⟩ hP hD hS dX10_match_110
      · have hlt_f9 := ctr_lt (N := 64) (by decide) hf9 c_2
        refine lv_aload_n hx hb dX10_match_31 rfl (lv_at hl 0 rfl) ?_
        refine lv_iload_n hx hb dX10_match_32 rfl (lv_at hl 2 rfl) ?_
        refine kR_i (As := [.int (nI f9)]) (rest := []) (q0 := 0) ⟨hx, hb, hml, hown, hts⟩ (c_X10_isDarkField l D cy a _ J I (va_up (va_up (va_up R 15 m0_25) 16 m1_25) 17 m2_25) RJ (nI f9) ) (cwV 1 hts gX10_match_X10_isDarkField rfl rfl rfl (by decide +kernel) ⟨Nat.le_of_ble_eq_true rfl, Nat.le_of_ble_eq_true rfl⟩) hK hN hP hD rfl rfl rfl hl.1 rfl (Nat.le_of_ble_eq_true rfl) dX10_match_33 ⟨Nat.le_of_ble_eq_true rfl, Nat.le_of_ble_eq_true rfl⟩ ?_
        refine lv_if_ne (tgt := 42) hx hb dX10_match_36 (by decide) (fun c_3 => ?_) (fun c_3 => ?_)
        · replace c_3 := bI_t c_3
          refine lv_aload_n hx hb dX10_match_42 rfl (lv_at hl 0 rfl) ?_
          refine lv_iload_n hx hb dX10_match_43 rfl (lv_at hl 2 rfl) ?_
          refine kM_i (As := [.int (nI f9)]) (rest := []) (q0 := 0) ⟨hx, hb, hml, hown, hts⟩ (t_X10_spreadFrom l D cy a _ J I (va_up (va_up (va_up R 15 m0_25) 16 m1_25) 17 m2_25) RJ (nI f9) hrg hsy (hst_f hun hlt_f9 c_3) ) (cwV 1 hts gX10_match_X10_spreadFrom rfl rfl rfl (by decide +kernel) ⟨Nat.le_of_ble_eq_true rfl, Nat.le_of_ble_eq_true rfl⟩) hK hN hP hD hS hA rfl rfl rfl hl.1 rfl (Nat.le_of_ble_eq_true rfl) dX10_match_44 ⟨Nat.le_of_ble_eq_true rfl, Nat.le_of_ble_eq_true rfl⟩ (fun r_4 u H locs hw hP hD hS => ?_)
          obtain ⟨w_5, w_6, hp_7, rfl⟩ := hw
          have hP : va_P D vwCl (MW cy a J I (va_up (va_up (va_up R 15 m0_25) 16 w_5) 17 w_6) RJ) H := hP
          have hD : va_D A (MW cy a J I (va_up (va_up (va_up R 15 m0_25) 16 w_5) 17 w_6) RJ) := hD
          refine lv_istore_n (lv' := [(3, .int r_4), (0, .ref (a 0)), (1, .int v1_25), (2, .int (nI f9))]) hx hb dX10_match_47 rfl hl (by decide) rfl (fun ls hl => ?_)
          obtain ⟨tm0, hwl0⟩ := sf_wl hp_7 hrg hsy hun
          refine lv_iload_n hx hb dX10_match_48 rfl (lv_at hl 2 rfl) ?_
          refine lv_iload_n hx hb dX10_match_49 rfl (lv_at hl 0 rfl) ?_
          refine lv_if_ge (tgt := 57) hx hb dX10_match_50 (by decide) (fun c_8 => ?_) (fun c_8 => ?_)
          · refine lv_iconst (v := 0) hx hb dX10_match_57 (by decide) ?_
            refine lv_iadd hx hb dX10_match_58 ?_
            refine lv_istore_n (lv' := [(1, .int (v1_25 + 0)), (3, .int r_4), (0, .ref (a 0)), (2, .int (nI f9))]) hx hb dX10_match_59 rfl hl (by decide) rfl (fun ls hl => ?_)
            exact lp60 _ tm0 (v1_25 + 0) r_4 m0_25 w_5 w_6 hlt_f9 hwl0 (Nat.lt_succ_self _) _ _ hP hD hS ls (lv_sub hl [2, 0, 3, 1] rfl)
          · refine lv_iconst (v := 1) hx hb dX10_match_53 (by decide) ?_
            refine lv_goto (tgt := 58) hx hb dX10_match_54 (by decide) ?_
            refine lv_iadd hx hb dX10_match_58 ?_
            refine lv_istore_n (lv' := [(1, .int (v1_25 + 1)), (3, .int r_4), (0, .ref (a 0)), (2, .int (nI f9))]) hx hb dX10_match_59 rfl hl (by decide) rfl (fun ls hl => ?_)
            exact lp60 _ tm0 (v1_25 + 1) r_4 m0_25 w_5 w_6 hlt_f9 hwl0 (Nat.lt_succ_self _) _ _ hP hD hS ls (lv_sub hl [2, 0, 3, 1] rfl)
        · replace c_3 := bI_f c_3
          refine lv_goto (tgt := 103) hx hb dX10_match_39 (by decide) ?_
          refine lv_iinc (v := nI (f9 + 1)) (lv' := [(2, .int (nI (f9 + 1))), (0, .ref (a 0)), (1, .int v1_25)]) hx hb dX10_match_103 hl (k := 2) rfl (nI_1 _) (by decide) rfl (fun ls hl => ?_)
          refine lv_goto (tgt := 25) hx hb dX10_match_106 (by decide) ?_
          exact ih25 (f9 + 1) v1_25 m0_25 m1_25 m2_25 hlt_f9 hrg hsy (un_s hun) (lt_dec hlt_f9 hn25) _ _ hP hD hS ls (lv_sub hl [1, 2, 0] rfl)
  have lp2 : ∀ (n2 : Nat), ∀ (i : Nat) (m0_2 : Nat → Int32) (m1_2 : Nat → Int32) (m2_2 : Nat → Int32), (i ≤ 64) → (∀ k, k < i → m0_2 k = -1) → (64 - i) < n2 → ∀ (H : Heap) (locs : List Loc), va_P D vwCl (MW cy a J I (va_up (va_up (va_up R 15 m0_2) 16 m1_2) 17 m2_2) RJ) H → va_D A (MW cy a J I (va_up (va_up (va_up R 15 m0_2) 16 m1_2) 17 m2_2) RJ) → va_S A s.heap H locs → ∀ (ls : Array Slot), lv_has ls 6 [(0, .ref (a 0)), (1, .int (nI i))] → W p l e (headSpec wsX10_match ({ frames := 3, cells := 0, slots := 0, locals := 70 })).room s m ([.ref (a 0)] : List Value).toArray below meth c H locs 0 0 (MQ below (va_Qi (fun r (u : MS) => ∃ (w0 : Nat → Int32), ∃ (w1 : Nat → Int32), ∃ (w2 : Nat → Int32), ((RG w0) ∧ (SYx w0 64)) ∧ u = (J, I, (va_up (va_up (va_up R 15 w0) 16 w1) 17 w2), RJ)) (BW D A (MWu cy a)) A) ([.ref (a 0)] : List Value).toArray s 0 0 A) (F0 m 2 ls []) := by
    intro n2
    induction n2 with
    | zero => intro i m0_2 m1_2 m2_2 hi hin hn; exact absurd hn (Nat.not_lt_zero _)
    | succ n2 ih2 =>
      intro i m0_2 m1_2 m2_2 hi hin hn2 H locs hP hD hS ls hl
      refine lv_iload_n hx hb dX10_match_2 rfl (lv_at hl 1 rfl) ?_
      refine lv_bipush (v := 64) hx hb dX10_match_3 (by decide) ?_
      refine lv_icmp_ge (tgt := 21) hx hb dX10_match_5 (by decide) (fun c_9 => ?_) (fun c_9 => ?_)
      · have hie := ctr_ge (N := 64) (by decide) hi c_9
        refine lv_iconst (v := 0) hx hb dX10_match_21 (by decide) ?_
        refine lv_istore_n (lv' := [(1, .int 0), (0, .ref (a 0))]) hx hb dX10_match_22 rfl hl (by decide) rfl (fun ls hl => ?_)
        refine lv_iconst (v := 0) hx hb dX10_match_23 (by decide) ?_
        refine lv_istore_n (lv' := [(2, .int 0), (1, .int 0), (0, .ref (a 0))]) hx hb dX10_match_24 rfl hl (by decide) rfl (fun ls hl => ?_)
        exact lp25 _ 0 (0 : Int32) m0_2 m1_2 m2_2 (Nat.zero_le _) (mt_0 hie hin).1 (mt_0 hie hin).2.1 ((mt_0 hie hin).2.2 _ _) (Nat.lt_succ_self _) _ _ hP hD hS ls (lv_sub hl [2, 1, 0] rfl)
      · have hlt_i := ctr_lt (N := 64) (by decide) hi c_9
        refine lv_aload_n hx hb dX10_match_8 rfl (lv_at hl 0 rfl) ?_
        refine va_get (D := D) (ci := 9) (v := .ref (a 15)) (C := RX10) (T := TX10) (N := 30) hx hb hts hi10 hown hK hP 0 rfl rfl 26 (by decide) hw1 (fun _ h9 => h9) rfl dX10_match_9 ?_
        refine lv_iload_n hx hb dX10_match_12 rfl (lv_at hl 1 rfl) ?_
        refine lv_iconst (v := (-1)) hx hb dX10_match_13 (by decide) ?_
        refine va_iast hx hb hK hP hD hS 15 0 rfl rfl (vp_in_nI hlt_i (by decide)) dX10_match_14 (fun H locs hP hD hS => ?_)
        have hP : va_P D vwCl (MW cy a J I (va_up (va_up (va_up R 15 (upd m0_2 (nI i).toNatClampNeg (-1))) 16 m1_2) 17 m2_2) RJ) H := hP
        have hD : va_D A (MW cy a J I (va_up (va_up (va_up R 15 (upd m0_2 (nI i).toNatClampNeg (-1))) 16 m1_2) 17 m2_2) RJ) := hD
        refine lv_iinc (v := nI (i + 1)) (lv' := [(1, .int (nI (i + 1))), (0, .ref (a 0))]) hx hb dX10_match_15 hl (k := 1) rfl (nI_1 _) (by decide) rfl (fun ls hl => ?_)
        refine lv_goto (tgt := 2) hx hb dX10_match_18 (by decide) ?_
        exact ih2 (i + 1) (upd m0_2 (nI i).toNatClampNeg (-1)) m1_2 m2_2 hlt_i (mt_up hlt_i hin) (lt_dec hlt_i hn2) _ _ hP hD hS ls (lv_sub hl [1, 0] rfl)
  refine lv_iconst (v := 0) hx hb dX10_match_0 (by decide) ?_
  refine lv_istore_n (lv' := [(1, .int 0), (0, .ref (a 0))]) hx hb dX10_match_1 rfl hl (by decide) rfl (fun ls hl => ?_)
  exact lp2 _ 0 (R 15) (R 16) (R 17) (by omega) (fun k h => absurd h (Nat.not_lt_zero _)) (Nat.lt_succ_self _) _ _ hP hD hS ls (lv_sub hl [1, 0] rfl)
theorem dX10_lack_0 : decode cX10_lack 0 = .ok (.aload_n 0, 1) := by decide +kernel
set_option maxRecDepth 20000 in
theorem ggX10_lack_X10_match : GoodIn wsX10_lack wsX10_match := goodIn_r _ [5, 6, 7, 8, 9, 10, 4, 11, 12, 13, 14, 15, 16, 17, 18, 19, 20, 21, 22, 23, 24, 25, 26, 27, 28, 29, 30, 31, 32, 33, 34, 35, 36, 37, 38, 39, 40, 41, 42, 43, 44, 45, 46, 47, 48, 49, 50, 51, 52, 53, 54, 55, 56, 57, 58, 59] rfl (by decide +kernel)
set_option maxRecDepth 20000 in
theorem gX10_lack_X10_match : GoodIn wsX10_lack (wsV RX10 295 RX10 yX10_match wsX10_match) := goodIn_app (goodIn_r _ [1, 2, 3, 4] rfl (by decide +kernel)) ggX10_lack_X10_match
theorem dX10_lack_1 : decode cX10_lack 1 = .ok (.invokevirtual 295, 3) := by decide +kernel
theorem dX10_lack_4 : decode cX10_lack 4 = .ok (.ireturn, 1) := by decide +kernel
set_option maxHeartbeats 4000000 in
set_option maxRecDepth 100000 in
theorem t_X10_lack (l : Launch) (D : va_G) (cy : Nat → ClassId) (a : Nat → Nat) (sz : Nat) (J : Nat → Int64) (I : Nat → Int32) (R : Nat → Nat → Int32) (RJ : Nat → Nat → Int64)  : Met l yX10_lack wsX10_lack ({ frames := 4, cells := 0, slots := 0, locals := 95 }) (va_Pc [.ref (a 0)] (PW D cy sz (MW cy a J I R RJ))) (va_Qi (fun r (u : MS) => ∃ (w0 : Nat → Int32), ∃ (w1 : Nat → Int32), ∃ (w2 : Nat → Int32), (True) ∧ u = (J, I, (va_up (va_up (va_up R 15 w0) 16 w1) 17 w2), RJ)) (BW D (va_A (MW cy a J I R RJ) sz) (MWu cy a)) (va_A (MW cy a J I R RJ) sz)) 0 0 (va_A (MW cy a J I R RJ) sz) := by
  refine Met.ofW (cc := cX10_lack) (maxL := 1) (ret := (some .int)) (by decide) rfl ?_
  intro p e s m args below meth c s₁ B hml hv
  obtain ⟨rfl, rfl, hP, hK, hN, hD0⟩ := hv
  have hx := B.exec
  have hb := B.bytes
  have hr := B.returns
  have hts := atoms_spec (ws := wsX10_lack) B.pre
  have hown : s.vm.findClass RX10 = some m.cls := findClass_of_methodNamed B.named
  have hlocks := B.notSynchronized
  have hD := hD0.self (sz := s.heap.size)
  generalize hAe : va_A (MW cy a J I R RJ) s.heap.size = A at hD ⊢
  have hA : ∀ q : Nat, s.heap.size ≤ q → A q := fun q h => by rw [← hAe]; exact Or.inr h
  have hS : va_S A s.heap s.heap [] := va_S.rf
  have hl := lv_entry ([.ref (a 0)]) (n := 1) (Nat.le_of_ble_eq_true rfl)
  rw [lg_entry_eq]
  generalize (lg_sl ([.ref (a 0)]) ++ List.replicate (1 - (lg_sl ([.ref (a 0)])).length) Slot.unset).toArray = ls at hl ⊢
  have hl : lv_has ls 1 [(0, .ref (a 0))] := hl
  have hP : va_P D vwCl (MW cy a J I (va_up (va_up (va_up R 15 (R 15)) 16 (R 16)) 17 (R 17)) RJ) s.heap := hP
  have hD : va_D A (MW cy a J I (va_up (va_up (va_up R 15 (R 15)) 16 (R 16)) 17 (R 17)) RJ) := hD
  refine lv_aload_n hx hb dX10_lack_0 rfl (lv_at hl 0 rfl) ?_
  refine kM_i (As := []) (rest := []) (q0 := 0) ⟨hx, hb, hml, hown, hts⟩ (t_X10_match l D cy a _ J I (va_up (va_up (va_up R 15 (R 15)) 16 (R 16)) 17 (R 17)) RJ   ) (cwV 0 hts gX10_lack_X10_match rfl rfl rfl (by decide +kernel) ⟨Nat.le_of_ble_eq_true rfl, Nat.le_of_ble_eq_true rfl⟩) hK hN hP hD hS hA rfl rfl rfl hl.1 rfl (Nat.le_of_ble_eq_true rfl) dX10_lack_1 ⟨Nat.le_of_ble_eq_true rfl, Nat.le_of_ble_eq_true rfl⟩ (fun r_1 u H locs hw hP hD hS => ?_)
  obtain ⟨w_2, w_3, w_4, ⟨hp_5, hp_6⟩, rfl⟩ := hw
  have hP : va_P D vwCl (MW cy a J I (va_up (va_up (va_up R 15 w_2) 16 w_3) 17 w_4) RJ) H := hP
  have hD : va_D A (MW cy a J I (va_up (va_up (va_up R 15 w_2) 16 w_3) 17 w_4) RJ) := hD
  exact wret_i hx hb hr hlocks (J, I, (va_up (va_up (va_up R 15 w_2) 16 w_3) 17 w_4), RJ) ⟨w_2, w_3, w_4, trivial, rfl⟩ hP hD hS dX10_lack_4
theorem dX10_lacking_0 : decode cX10_lacking 0 = .ok (.iload_n 1, 1) := by decide +kernel
set_option maxRecDepth 20000 in
theorem ggX10_lacking_X10_isField : GoodIn wsX10_lacking wsX10_isField := goodIn_r _ [6, 7, 8, 5, 9] rfl (by decide +kernel)
set_option maxRecDepth 20000 in
theorem gX10_lacking_X10_isField : GoodIn wsX10_lacking (va_wsS RX10 147 yX10_isField wsX10_isField) := goodIn_app (goodIn_r _ [3, 4, 5] rfl (by decide +kernel)) ggX10_lacking_X10_isField
theorem dX10_lacking_1 : decode cX10_lacking 1 = .ok (.invokestatic 147, 3) := by decide +kernel
theorem dX10_lacking_4 : decode cX10_lacking 4 = .ok (.ifCond .ne 10, 3) := by decide +kernel
theorem dX10_lacking_14 : decode cX10_lacking 14 = .ok (.aload_n 0, 1) := by decide +kernel
set_option maxRecDepth 20000 in
theorem ggX10_lacking_X10_match : GoodIn wsX10_lacking wsX10_match := goodIn_r _ [18, 19, 20, 21, 22, 23, 5, 24, 25, 26, 27, 28, 29, 30, 31, 32, 33, 34, 35, 2, 36, 37, 38, 7, 8, 9, 39, 40, 41, 42, 43, 44, 45, 46, 47, 48, 49, 50, 51, 52, 53, 54, 55, 56, 57, 58, 59, 60, 61, 62, 63, 64, 65, 66, 67, 68] rfl (by decide +kernel)
set_option maxRecDepth 20000 in
theorem gX10_lacking_X10_match : GoodIn wsX10_lacking (wsV RX10 295 RX10 yX10_match wsX10_match) := goodIn_app (goodIn_r _ [15, 16, 17, 5] rfl (by decide +kernel)) ggX10_lacking_X10_match
theorem dX10_lacking_15 : decode cX10_lacking 15 = .ok (.invokevirtual 295, 3) := by decide +kernel
theorem dX10_lacking_18 : decode cX10_lacking 18 = .ok (.istore_n 2, 1) := by decide +kernel
theorem dX10_lacking_19 : decode cX10_lacking 19 = .ok (.aload_n 0, 1) := by decide +kernel
theorem dX10_lacking_20 : decode cX10_lacking 20 = .ok (.iconst (-1), 1) := by decide +kernel
set_option maxRecDepth 20000 in
theorem ggX10_lacking_X10_spreadFrom : GoodIn wsX10_lacking wsX10_spreadFrom := goodIn_r _ [35, 2, 19, 25, 20, 21, 22, 23, 5, 24, 26, 27, 28, 29, 30, 31, 36, 37, 38, 7, 8, 9, 39, 40, 41, 42, 43, 44, 45, 46, 47, 48, 49, 50, 51, 52, 53, 54, 55, 56, 57, 58, 59, 60, 61, 62, 63, 64, 65, 66, 67, 68] rfl (by decide +kernel)
set_option maxRecDepth 20000 in
theorem gX10_lacking_X10_spreadFrom : GoodIn wsX10_lacking (wsV RX10 292 RX10 yX10_spreadFrom wsX10_spreadFrom) := goodIn_app (goodIn_r _ [32, 33, 34, 5] rfl (by decide +kernel)) ggX10_lacking_X10_spreadFrom
theorem dX10_lacking_21 : decode cX10_lacking 21 = .ok (.invokevirtual 292, 3) := by decide +kernel
theorem dX10_lacking_24 : decode cX10_lacking 24 = .ok (.istore_n 3, 1) := by decide +kernel
theorem dX10_lacking_25 : decode cX10_lacking 25 = .ok (.aload_n 0, 1) := by decide +kernel
theorem dX10_lacking_26 : decode cX10_lacking 26 = .ok (.iload_n 1, 1) := by decide +kernel
set_option maxRecDepth 20000 in
theorem ggX10_lacking_X10_isDarkField : GoodIn wsX10_lacking wsX10_isDarkField := goodIn_r _ [24, 25, 26, 27, 5, 28, 29, 30, 31, 39, 40, 41, 42, 43, 44, 45, 46, 47, 48, 49, 50, 51, 52, 53, 54, 55, 56, 57, 58, 59, 60, 61, 62, 63, 64, 65, 66, 67, 68] rfl (by decide +kernel)
set_option maxRecDepth 20000 in
theorem gX10_lacking_X10_isDarkField : GoodIn wsX10_lacking (wsV RX10 286 RX10 yX10_isDarkField wsX10_isDarkField) := goodIn_app (goodIn_r _ [21, 22, 23, 5] rfl (by decide +kernel)) ggX10_lacking_X10_isDarkField
theorem dX10_lacking_27 : decode cX10_lacking 27 = .ok (.invokevirtual 286, 3) := by decide +kernel
theorem dX10_lacking_30 : decode cX10_lacking 30 = .ok (.ifCond .eq 16, 3) := by decide +kernel
theorem dX10_lacking_46 : decode cX10_lacking 46 = .ok (.iconst 0, 1) := by decide +kernel
theorem dX10_lacking_47 : decode cX10_lacking 47 = .ok (.ireturn, 1) := by decide +kernel
theorem dX10_lacking_33 : decode cX10_lacking 33 = .ok (.aload_n 0, 1) := by decide +kernel
theorem dX10_lacking_34 : decode cX10_lacking 34 = .ok (.getfield 57, 3) := by decide +kernel
theorem dX10_lacking_37 : decode cX10_lacking 37 = .ok (.iload_n 1, 1) := by decide +kernel
theorem dX10_lacking_38 : decode cX10_lacking 38 = .ok (.baload, 1) := by decide +kernel
theorem dX10_lacking_39 : decode cX10_lacking 39 = .ok (.ifCond .eq 7, 3) := by decide +kernel
theorem dX10_lacking_42 : decode cX10_lacking 42 = .ok (.iconst 1, 1) := by decide +kernel
theorem dX10_lacking_43 : decode cX10_lacking 43 = .ok (.goto 4, 3) := by decide +kernel
theorem dX10_lacking_7 : decode cX10_lacking 7 = .ok (.aload_n 0, 1) := by decide +kernel
theorem dX10_lacking_8 : decode cX10_lacking 8 = .ok (.ldc 141, 2) := by decide +kernel
set_option maxRecDepth 20000 in
theorem ggX10_lacking_X10_finding : GoodIn wsX10_lacking wsX10_finding := goodIn_r _ [13, 14, 39, 40, 41, 42, 43, 44, 45, 46, 47, 48, 49, 50, 51, 52, 53, 54, 55, 56, 57, 58, 59, 60, 61, 62, 63, 64, 65, 66, 67, 68] rfl (by decide +kernel)
set_option maxRecDepth 20000 in
theorem gX10_lacking_X10_finding : GoodIn wsX10_lacking (wsV RX10 99 RX10 yX10_finding wsX10_finding) := goodIn_app (goodIn_r _ [10, 11, 12, 5] rfl (by decide +kernel)) ggX10_lacking_X10_finding
theorem dX10_lacking_10 : decode cX10_lacking 10 = .ok (.invokevirtual 99, 3) := by decide +kernel
theorem dX10_lacking_13 : decode cX10_lacking 13 = .ok (.ireturn, 1) := by decide +kernel
set_option maxRecDepth 20000 in
theorem ihX10_lacking_10 : ∀ w ∈ u_ws RX10 TX10 30, w ∈ wsX10_lacking := fun _ h => List.mem_cons_of_mem _ (List.mem_append_right _ h)
set_option maxHeartbeats 4000000 in
set_option maxRecDepth 100000 in
theorem t_X10_lacking (l : Launch) (D : va_G) (cy : Nat → ClassId) (a : Nat → Nat) (sz : Nat) (J : Nat → Int64) (I : Nat → Int32) (R : Nat → Nat → Int32) (RJ : Nat → Nat → Int64) (x0 : Int32) (hM : MI I R) : Met l yX10_lacking wsX10_lacking ({ frames := 4, cells := 0, slots := 0, locals := 95 }) (va_Pc [.ref (a 0), .int x0] (PW D cy sz (MW cy a J I R RJ))) (va_Qi (fun r (u : MS) => ∃ (w0 : Int32), ∃ (w1 : Nat → Int32), ∃ (w2 : Nat → Int32), ∃ (w3 : Nat → Int32), (True) ∧ u = (J, (va_up I 13 w0), (va_up (va_up (va_up R 15 w1) 16 w2) 17 w3), RJ)) (BW D (va_A (MW cy a J I R RJ) sz) (MWu cy a)) (va_A (MW cy a J I R RJ) sz)) 0 0 (va_A (MW cy a J I R RJ) sz) := by
  refine Met.ofW (cc := cX10_lacking) (maxL := 4) (ret := (some .int)) (by decide) rfl ?_
  intro p e s m args below meth c s₁ B hml hv
  obtain ⟨rfl, rfl, hP, hK, hN, hD0⟩ := hv
  have hx := B.exec
  have hb := B.bytes
  have hr := B.returns
  have hts := atoms_spec (ws := wsX10_lacking) B.pre
  have hown : s.vm.findClass RX10 = some m.cls := findClass_of_methodNamed B.named
  have hlocks := B.notSynchronized
  have hw0 := hts (.fieldLink RX10 57 "ParquetLayerModel" "seen" "[Z") (by decide +kernel)
  have hw1 := hts (.constant RX10 141 (-100001)) (by decide +kernel)
  have hi10 := ihX10_lacking_10
  have hD := hD0.self (sz := s.heap.size)
  generalize hAe : va_A (MW cy a J I R RJ) s.heap.size = A at hD ⊢
  have hA : ∀ q : Nat, s.heap.size ≤ q → A q := fun q h => by rw [← hAe]; exact Or.inr h
  have hS : va_S A s.heap s.heap [] := va_S.rf
  have hl := lv_entry ([.ref (a 0), .int x0]) (n := 4) (Nat.le_of_ble_eq_true rfl)
  rw [lg_entry_eq]
  generalize (lg_sl ([.ref (a 0), .int x0]) ++ List.replicate (4 - (lg_sl ([.ref (a 0), .int x0])).length) Slot.unset).toArray = ls at hl ⊢
  have hl : lv_has ls 4 [(0, .ref (a 0)), (1, .int x0)] := hl
  have hP : va_P D vwCl (MW cy a J (va_up I 13 (I 13)) (va_up (va_up (va_up R 15 (R 15)) 16 (R 16)) 17 (R 17)) RJ) s.heap := hP
  have hD : va_D A (MW cy a J (va_up I 13 (I 13)) (va_up (va_up (va_up R 15 (R 15)) 16 (R 16)) 17 (R 17)) RJ) := hD
  refine lv_iload_n hx hb dX10_lacking_0 rfl (lv_at hl 1 rfl) ?_
  refine kS_i (As := [.int x0]) (rest := []) ⟨hx, hb, hml, hown, hts⟩ (c_X10_isField l x0) (va_cwS 1 hts gX10_lacking_X10_isField rfl rfl rfl (by decide +kernel) ⟨Nat.le_of_ble_eq_true rfl, Nat.le_of_ble_eq_true rfl⟩) rfl hl.1 rfl (Nat.le_of_ble_eq_true rfl) dX10_lacking_1 ⟨Nat.le_of_ble_eq_true rfl, Nat.le_of_ble_eq_true rfl⟩ ?_
  refine lv_if_ne (tgt := 14) hx hb dX10_lacking_4 (by decide) (fun c_1 => ?_) (fun c_1 => ?_)
  · replace c_1 := bI_t c_1
    refine lv_aload_n hx hb dX10_lacking_14 rfl (lv_at hl 0 rfl) ?_
    refine kM_i (As := []) (rest := []) (q0 := 0) ⟨hx, hb, hml, hown, hts⟩ (t_X10_match l D cy a _ J (va_up I 13 (I 13)) (va_up (va_up (va_up R 15 (R 15)) 16 (R 16)) 17 (R 17)) RJ   ) (cwV 0 hts gX10_lacking_X10_match rfl rfl rfl (by decide +kernel) ⟨Nat.le_of_ble_eq_true rfl, Nat.le_of_ble_eq_true rfl⟩) hK hN hP hD hS hA rfl rfl rfl hl.1 rfl (Nat.le_of_ble_eq_true rfl) dX10_lacking_15 ⟨Nat.le_of_ble_eq_true rfl, Nat.le_of_ble_eq_true rfl⟩ (fun r_2 u H locs hw hP hD hS => ?_)
    obtain ⟨w_3, w_4, w_5, ⟨hp_6, hp_7⟩, rfl⟩ := hw
    have hP : va_P D vwCl (MW cy a J (va_up I 13 (I 13)) (va_up (va_up (va_up R 15 w_3) 16 w_4) 17 w_5) RJ) H := hP
    have hD : va_D A (MW cy a J (va_up I 13 (I 13)) (va_up (va_up (va_up R 15 w_3) 16 w_4) 17 w_5) RJ) := hD
    refine lv_istore_n (lv' := [(2, .int r_2), (0, .ref (a 0)), (1, .int x0)]) hx hb dX10_lacking_18 rfl hl (by decide) rfl (fun ls hl => ?_)
    refine lv_aload_n hx hb dX10_lacking_19 rfl (lv_at hl 1 rfl) ?_
    refine lv_iconst (v := (-1)) hx hb dX10_lacking_20 (by decide) ?_
    refine kM_i (As := [.int (-1)]) (rest := []) (q0 := 0) ⟨hx, hb, hml, hown, hts⟩ (t_X10_spreadFrom l D cy a _ J (va_up I 13 (I 13)) (va_up (va_up (va_up R 15 w_3) 16 w_4) 17 w_5) RJ (-1) hp_6 hp_7 (fun d hd z => absurd z (nI_m1 ⟨d, hd⟩)) ) (cwV 1 hts gX10_lacking_X10_spreadFrom rfl rfl rfl (by decide +kernel) ⟨Nat.le_of_ble_eq_true rfl, Nat.le_of_ble_eq_true rfl⟩) hK hN hP hD hS hA rfl rfl rfl hl.1 rfl (Nat.le_of_ble_eq_true rfl) dX10_lacking_21 ⟨Nat.le_of_ble_eq_true rfl, Nat.le_of_ble_eq_true rfl⟩ (fun r_8 u H locs hw hP hD hS => ?_)
    obtain ⟨w_9, w_10, hp_11, rfl⟩ := hw
    have hP : va_P D vwCl (MW cy a J (va_up I 13 (I 13)) (va_up (va_up (va_up R 15 w_3) 16 w_9) 17 w_10) RJ) H := hP
    have hD : va_D A (MW cy a J (va_up I 13 (I 13)) (va_up (va_up (va_up R 15 w_3) 16 w_9) 17 w_10) RJ) := hD
    refine lv_istore_n (lv' := [(3, .int r_8), (2, .int r_2), (0, .ref (a 0)), (1, .int x0)]) hx hb dX10_lacking_24 rfl hl (by decide) rfl (fun ls hl => ?_)
    refine lv_aload_n hx hb dX10_lacking_25 rfl (lv_at hl 2 rfl) ?_
    refine lv_iload_n hx hb dX10_lacking_26 rfl (lv_at hl 3 rfl) ?_
    refine kR_i (As := [.int x0]) (rest := []) (q0 := 0) ⟨hx, hb, hml, hown, hts⟩ (c_X10_isDarkField l D cy a _ J (va_up I 13 (I 13)) (va_up (va_up (va_up R 15 w_3) 16 w_9) 17 w_10) RJ x0 ) (cwV 1 hts gX10_lacking_X10_isDarkField rfl rfl rfl (by decide +kernel) ⟨Nat.le_of_ble_eq_true rfl, Nat.le_of_ble_eq_true rfl⟩) hK hN hP hD rfl rfl rfl hl.1 rfl (Nat.le_of_ble_eq_true rfl) dX10_lacking_27 ⟨Nat.le_of_ble_eq_true rfl, Nat.le_of_ble_eq_true rfl⟩ ?_
    refine lv_if_eq (tgt := 46) hx hb dX10_lacking_30 (by decide) (fun c_12 => ?_) (fun c_12 => ?_)
    · replace c_12 := bI_f c_12
      refine lv_iconst (v := 0) hx hb dX10_lacking_46 (by decide) ?_
      exact wret_i hx hb hr hlocks (J, (va_up I 13 (I 13)), (va_up (va_up (va_up R 15 w_3) 16 w_9) 17 w_10), RJ) ⟨(I 13), w_3, w_9, w_10, trivial, rfl⟩ hP hD hS dX10_lacking_47
    · replace c_12 := bI_t c_12
      refine lv_aload_n hx hb dX10_lacking_33 rfl (lv_at hl 2 rfl) ?_
      refine va_get (D := D) (ci := 9) (v := .ref (a 16)) (C := RX10) (T := TX10) (N := 30) hx hb hts hi10 hown hK hP 0 rfl rfl 27 (by decide) hw0 (fun _ h9 => h9) rfl dX10_lacking_34 ?_
      refine lv_iload_n hx hb dX10_lacking_37 rfl (lv_at hl 3 rfl) ?_
      refine va_zald hx hb hK hP 16 2 rfl rfl (within_in64 c_1) dX10_lacking_38 ?_
      refine lv_if_eq (tgt := 46) hx hb dX10_lacking_39 (by decide) (fun c_13 => ?_) (fun c_13 => ?_)
      · refine lv_iconst (v := 0) hx hb dX10_lacking_46 (by decide) ?_
        exact wret_i hx hb hr hlocks (J, (va_up I 13 (I 13)), (va_up (va_up (va_up R 15 w_3) 16 w_9) 17 w_10), RJ) ⟨(I 13), w_3, w_9, w_10, trivial, rfl⟩ hP hD hS dX10_lacking_47
      · refine lv_iconst (v := 1) hx hb dX10_lacking_42 (by decide) ?_
        refine lv_goto (tgt := 47) hx hb dX10_lacking_43 (by decide) ?_
        exact wret_i hx hb hr hlocks (J, (va_up I 13 (I 13)), (va_up (va_up (va_up R 15 w_3) 16 w_9) 17 w_10), RJ) ⟨(I 13), w_3, w_9, w_10, trivial, rfl⟩ hP hD hS dX10_lacking_47
  · replace c_1 := bI_f c_1
    refine lv_aload_n hx hb dX10_lacking_7 rfl (lv_at hl 0 rfl) ?_
    refine lv_ldc (v := (-100001)) hx hb hown hw1 dX10_lacking_8 ?_
    refine kM_i (As := [.int (-100001)]) (rest := []) (q0 := 0) ⟨hx, hb, hml, hown, hts⟩ (c_X10_finding l D cy a _ J (va_up I 13 (I 13)) (va_up (va_up (va_up R 15 (R 15)) 16 (R 16)) 17 (R 17)) RJ (-100001) ) (cwV 1 hts gX10_lacking_X10_finding rfl rfl rfl (by decide +kernel) ⟨Nat.le_of_ble_eq_true rfl, Nat.le_of_ble_eq_true rfl⟩) hK hN hP hD hS hA rfl rfl rfl hl.1 rfl (Nat.le_of_ble_eq_true rfl) dX10_lacking_10 ⟨Nat.le_of_ble_eq_true rfl, Nat.le_of_ble_eq_true rfl⟩ (fun r_14 u H locs hw hP hD hS => ?_)
    obtain ⟨rfl, rfl⟩ := hw
    have hP : va_P D vwCl (MW cy a J (va_up I 13 ((I 13) + 1)) (va_up (va_up (va_up R 15 (R 15)) 16 (R 16)) 17 (R 17)) RJ) H := hP
    have hD : va_D A (MW cy a J (va_up I 13 ((I 13) + 1)) (va_up (va_up (va_up R 15 (R 15)) 16 (R 16)) 17 (R 17)) RJ) := hD
    exact wret_i hx hb hr hlocks (J, (va_up I 13 ((I 13) + 1)), (va_up (va_up (va_up R 15 (R 15)) 16 (R 16)) 17 (R 17)), RJ) ⟨((I 13) + 1), (R 15), (R 16), (R 17), trivial, rfl⟩ hP hD hS dX10_lacking_13
