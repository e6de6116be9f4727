section KSTAT
variable {p : Program} {l : Launch} {e : Env} {R : Room} {s : State} {m : MethodId} {args : Array Value} {below : List Frame} {meth : Method} {c : Code} {H : Heap} {locs : List Loc} {cells slots : Nat} {Q : State → Prop}
variable {pc : Nat} {ls : Array Slot} {rest st0 As : List Value} {cc bytes : ByteArray} {Ts wsy : List Cond} {own : String} {y : MethodName} {rm : Room} {ret : Option FieldType} {index maxL nL n mc ms : Nat}
variable {D : va_G} {cy : Nat → ClassId} {ws : va_W} {A0 : Nat → Prop} {H0 : Heap}
/-- static, over the whole world -/
theorem kW_i {S : Type} {wf : S → va_W} {post : Int32 → S → Prop} (C0 : CallFix p m c cc nL s args Ts own) (hM : Met l y wsy rm (va_Pc As (PW D cy H.size ws)) (va_Qi post (BW D (va_A ws H.size) wf) (va_A ws H.size)) mc ms (va_A ws H.size)) (cw : CallB R s args own index y bytes maxL ret wsy rm mc ms n ∧ (Cond.static y).before args s = true)
    (hK : va_K D vwCl (tysA cy) s) (hN : NW s) (hP : va_P D vwCl ws H) (hD : va_D A0 ws) (hS : va_S A0 H0 H locs) (hA : ∀ q, H0.size ≤ q → A0 q)
    (hn : As.length = n) (hsize : ls.size = nL) (hst : st0 = As.reverse ++ rest) (hW : (rest.map fun v => v.category).sum ≤ 8) (hdg : decode cc pc = .ok (.invokestatic index, 3)) (hf : cells + mc ≤ R.cells ∧ slots + ms ≤ R.slots)
    (kk : ∀ (r : Int32) (u : S) (H1 : Heap) (locs1 : List Loc), post r u → va_P D vwCl (wf u) H1 → va_D A0 (wf u) → va_S A0 H0 H1 locs1 → W p l e R s m args below meth c H1 locs1 (cells + mc) (slots + ms) Q (F0 m (pc + 3) ls (.int r :: rest))) : W p l e R s m args below meth c H locs cells slots Q (F0 m pc ls st0) := by
  have hF := va_freeAll hD hS hA
  refine va_calli (va_runS C0 hM cw ⟨PW_blind, fun U hU hW => ⟨rfl, by rw [hU], by rw [hU]; exact hP, va_K.moved hW.alike hK, hN.warm hW, hD.weaken (fun _ _ _ _ => trivial)⟩⟩ rfl hn hsize hst (lv_room hW) hdg hf) hS (fun q _ h => hF q h) hF (fun r u t H1 locs1 ht hvm hw hB hz1 hk1 hS1 => ?_)
  obtain ⟨hP1, hD1⟩ := hB
  rw [ht] at hP1
  exact kk r u H1 locs1 hw hP1 (hD1.weaken (fun k q _ h => hF q.1 h)) hS1
theorem kW_v {S : Type} {wf : S → va_W} {post : S → Prop} (C0 : CallFix p m c cc nL s args Ts own) (hM : Met l y wsy rm (va_Pc As (PW D cy H.size ws)) (va_Qv post (BW D (va_A ws H.size) wf) (va_A ws H.size)) mc ms (va_A ws H.size)) (cw : CallB R s args own index y bytes maxL ret wsy rm mc ms n ∧ (Cond.static y).before args s = true)
    (hK : va_K D vwCl (tysA cy) s) (hN : NW s) (hP : va_P D vwCl ws H) (hD : va_D A0 ws) (hS : va_S A0 H0 H locs) (hA : ∀ q, H0.size ≤ q → A0 q)
    (hn : As.length = n) (hsize : ls.size = nL) (hst : st0 = As.reverse ++ rest) (hW : (rest.map fun v => v.category).sum ≤ 8) (hdg : decode cc pc = .ok (.invokestatic index, 3)) (hf : cells + mc ≤ R.cells ∧ slots + ms ≤ R.slots)
    (kk : ∀ (u : S) (H1 : Heap) (locs1 : List Loc), post u → va_P D vwCl (wf u) H1 → va_D A0 (wf u) → va_S A0 H0 H1 locs1 → W p l e R s m args below meth c H1 locs1 (cells + mc) (slots + ms) Q (F0 m (pc + 3) ls rest)) : W p l e R s m args below meth c H locs cells slots Q (F0 m pc ls st0) := by
  have hF := va_freeAll hD hS hA
  refine va_callv (va_runS C0 hM cw ⟨PW_blind, fun U hU hW => ⟨rfl, by rw [hU], by rw [hU]; exact hP, va_K.moved hW.alike hK, hN.warm hW, hD.weaken (fun _ _ _ _ => trivial)⟩⟩ rfl hn hsize hst (lv_room hW) hdg hf) hS (fun q _ h => hF q h) hF (fun u t H1 locs1 ht hvm hw hB hz1 hk1 hS1 => ?_)
  obtain ⟨hP1, hD1⟩ := hB
  rw [ht] at hP1
  exact kk u H1 locs1 hw hP1 (hD1.weaken (fun k q _ h => hF q.1 h)) hS1
end KSTAT
theorem gOk_all {f m : Nat} (hf : f < 64) (hm : m < 256) : gOk f m = true := by
  have h : f < 8 ∨ (8 ≤ f ∧ f < 16) ∨ (16 ≤ f ∧ f < 24) ∨ (24 ≤ f ∧ f < 32) ∨ (32 ≤ f ∧ f < 40) ∨ (40 ≤ f ∧ f < 48) ∨ (48 ≤ f ∧ f < 56) ∨ (56 ≤ f ∧ f < 64) := by omega
  rcases h with h | h | h | h | h | h | h | h
  · have e : 0 + (f - 0) = f := by omega
    have k : gOk (0 + (f - 0)) m = true := gOk_0 ⟨f - 0, by omega⟩ ⟨m, hm⟩
    rw [e] at k
    exact k
  · have e : 8 + (f - 8) = f := by omega
    have k : gOk (8 + (f - 8)) m = true := gOk_8 ⟨f - 8, by omega⟩ ⟨m, hm⟩
    rw [e] at k
    exact k
  · have e : 16 + (f - 16) = f := by omega
    have k : gOk (16 + (f - 16)) m = true := gOk_16 ⟨f - 16, by omega⟩ ⟨m, hm⟩
    rw [e] at k
    exact k
  · have e : 24 + (f - 24) = f := by omega
    have k : gOk (24 + (f - 24)) m = true := gOk_24 ⟨f - 24, by omega⟩ ⟨m, hm⟩
    rw [e] at k
    exact k
  · have e : 32 + (f - 32) = f := by omega
    have k : gOk (32 + (f - 32)) m = true := gOk_32 ⟨f - 32, by omega⟩ ⟨m, hm⟩
    rw [e] at k
    exact k
  · have e : 40 + (f - 40) = f := by omega
    have k : gOk (40 + (f - 40)) m = true := gOk_40 ⟨f - 40, by omega⟩ ⟨m, hm⟩
    rw [e] at k
    exact k
  · have e : 48 + (f - 48) = f := by omega
    have k : gOk (48 + (f - 48)) m = true := gOk_48 ⟨f - 48, by omega⟩ ⟨m, hm⟩
    rw [e] at k
    exact k
  · have e : 56 + (f - 56) = f := by omega
    have k : gOk (56 + (f - 56)) m = true := gOk_56 ⟨f - 56, by omega⟩ ⟨m, hm⟩
    rw [e] at k
    exact k
def leB (x : Int32) (f m : Nat) : Prop := ∃ n, n ≤ gB f m ∧ x = nI n
def wB (w : Nat → Int32) (j : Nat) : Prop := ∀ f m, j ≤ f → f < 65 → m < 256 → leB (w (256 * f + m)) f m
theorem gOk_one {f m : Nat} (hf : f < 64) (hm : m < 256) : gB (f + 1) (m / 2) ≤ gB f m := by
  have h := gOk_all hf hm
  unfold gOk at h
  rw [Bool.and_eq_true] at h
  exact Nat.le_of_ble_eq_true h.1
theorem gOk_two {f m : Nat} (hf : f < 64) (hm : m < 256) (h2 : m % 2 = 0) : (if f % 8 < 7 ∧ m / 2 % 2 = 0 then gB (f + 1) (m / 2 + 1) else 0) + (if f < 56 then gB (f + 1) (m / 2 + 128) else 0) ≤ gB f m := by
  have h := gOk_all hf hm
  unfold gOk at h
  rw [Bool.and_eq_true] at h
  have h3 := h.2
  rw [Bool.or_eq_true] at h3
  rcases h3 with q | q
  · rw [h2] at q
    exact absurd q (by decide)
  · exact Nat.le_of_ble_eq_true q
theorem leB_le {x : Int32} {f m f' m' : Nat} (h : leB x f m) (hl : gB f m ≤ gB f' m') : leB x f' m' := by
  obtain ⟨n, hn, e⟩ := h
  exact ⟨n, Nat.le_trans hn hl, e⟩
theorem leB_0 {f m : Nat} : leB 0 f m := ⟨0, Nat.zero_le _, rfl⟩
theorem wx_lt {j mk : Nat} (hj : j < 65) (hm : mk < 256) : 256 * j + mk < 2 ^ 31 := by omega
theorem wB_get {w : Nat → Int32} {j mk : Nat} (H : wB w (j + 1)) (hj : j < 64) (hm : mk < 256) : leB (w ((256 : Int32) * nI (j + 1) + nI mk).toNatClampNeg) (j + 1) mk := by
  rw [wix, nI_clamp (wx_lt (Nat.succ_lt_succ hj) hm)]
  exact H (j + 1) mk (Nat.le_refl _) (Nat.succ_lt_succ hj) hm
theorem h2lt {mk : Nat} (hm : mk < 256) : mk / 2 < 256 := by omega
theorem h2lt1 {mk : Nat} (hm : mk < 256) : mk / 2 + 1 < 256 := by omega
theorem h2lt128 {mk : Nat} (hm : mk < 256) : mk / 2 + 128 < 256 := by omega
theorem h22 {mk : Nat} (h : mk / 2 % 2 = 0) : mk / 2 / 2 * 2 + 1 = mk / 2 + 1 := by omega
theorem leB_a {w : Nat → Int32} {j mk : Nat} (H : wB w (j + 1)) (hj : j < 64) (hm : mk < 256) : leB (w ((256 : Int32) * nI (j + 1) + nI (mk / 2)).toNatClampNeg) j mk :=
  leB_le (wB_get H hj (h2lt hm)) (gOk_one hj hm)
theorem leB_s1 {w : Nat → Int32} {j mk : Nat} (H : wB w (j + 1)) (hj : j < 64) (hm : mk < 256) (h1 : mk % 2 = 0) (h2 : mk / 2 % 2 = 0) (h3 : j % 8 < 7) : leB ((0 + w ((256 : Int32) * nI (j + 1) + nI (mk / 2 / 2 * 2 + 1)).toNatClampNeg) + 0) j mk := by
  rw [h22 h2]
  obtain ⟨n, hn, q⟩ := wB_get H hj (h2lt1 hm)
  rw [q, Int32.zero_add, Int32.add_zero]
  have g := gOk_two hj hm h1
  rw [if_pos ⟨h3, h2⟩] at g
  exact ⟨n, Nat.le_trans hn (Nat.le_trans (Nat.le_add_right _ _) g), rfl⟩
theorem leB_s2 {w : Nat → Int32} {j mk : Nat} (H : wB w (j + 1)) (hj : j < 64) (hm : mk < 256) (h1 : mk % 2 = 0) (h3 : j < 56) : leB (0 + w ((256 : Int32) * nI (j + 1) + nI (mk / 2 + 128)).toNatClampNeg) j mk := by
  obtain ⟨n, hn, q⟩ := wB_get H hj (h2lt128 hm)
  rw [q, Int32.zero_add]
  have g := gOk_two hj hm h1
  rw [if_pos h3] at g
  exact ⟨n, Nat.le_trans hn (Nat.le_trans (Nat.le_add_left _ _) g), rfl⟩
theorem leB_s3 {w : Nat → Int32} {j mk : Nat} (H : wB w (j + 1)) (hj : j < 64) (hm : mk < 256) (h1 : mk % 2 = 0) (h2 : mk / 2 % 2 = 0) (h3 : j % 8 < 7) (h4 : j < 56) : leB ((0 + w ((256 : Int32) * nI (j + 1) + nI (mk / 2 / 2 * 2 + 1)).toNatClampNeg) + w ((256 : Int32) * nI (j + 1) + nI (mk / 2 + 128)).toNatClampNeg) j mk := by
  rw [h22 h2]
  obtain ⟨n, hn, q⟩ := wB_get H hj (h2lt1 hm)
  obtain ⟨n2, hn2, q2⟩ := wB_get H hj (h2lt128 hm)
  rw [q, q2, Int32.zero_add, nI_add]
  have g := gOk_two hj hm h1
  rw [if_pos ⟨h3, h2⟩, if_pos h4] at g
  exact ⟨n + n2, Nat.le_trans (Nat.add_le_add hn hn2) g, rfl⟩
theorem mk1_t : ∀ m : Fin 256, ¬ nI m.val &&& 1 = 1 → m.val % 2 = 0 := by decide +kernel
theorem mk2_t : ∀ m : Fin 256, nI m.val &&& 2 = 0 → m.val / 2 % 2 = 0 := by decide +kernel
theorem pl_a : ∀ j : Fin 64, ¬ m_place (nI j.val) false = 0 → j.val % 8 < 7 := by decide +kernel
theorem pl_b : ∀ j : Fin 64, ¬ m_place (nI j.val) true = 0 → j.val < 56 := by decide +kernel
theorem may_pl {fl tk al ac : Int64} {f : Int32} {b : Bool} (h : m_may fl tk al ac f b = true) : ¬ m_place f b = 0 := by
  intro z
  unfold m_may at h
  rw [Bool.and_eq_true] at h
  rw [decide_eq_true z] at h
  exact absurd h.1 (by decide)
theorem may_a {fl tk al ac : Int64} {j : Nat} (hj : j < 64) (h : m_may fl tk al ac (nI j) false = true) : j % 8 < 7 := pl_a ⟨j, hj⟩ (may_pl h)
theorem may_b {fl tk al ac : Int64} {j : Nat} (hj : j < 64) (h : m_may fl tk al ac (nI j) true = true) : j < 56 := pl_b ⟨j, hj⟩ (may_pl h)
theorem wt_1 : ∀ m : Fin 256, 1 ≤ gB 64 m.val := by decide +kernel
theorem wt_upd {w : Nat → Int32} {i : Nat} {v : Int32} (h : ∀ m, m < i → leB (w (16384 + m)) 64 m) (hi : i < 256) (hv : leB v 64 i) : ∀ m, m < i + 1 → leB (upd w ((16384 : Int32) + nI i).toNatClampNeg v (16384 + m)) 64 m := by
  intro m hm
  have e : ((16384 : Int32) + nI i).toNatClampNeg = 16384 + i := by
    rw [show (16384 : Int32) = nI 16384 from rfl, nI_add, nI_clamp (by omega)]
  rw [e]
  by_cases q : m = i
  · subst q
    rw [pk_us]
    exact hv
  · rw [pk_un (fun z => q (Nat.add_left_cancel z))]
    exact h m (Nat.lt_of_le_of_ne (Nat.le_of_lt_succ hm) q)
theorem wB_of {w : Nat → Int32} {i : Nat} (h : ∀ m, m < i → leB (w (16384 + m)) 64 m) (e : i = 256) : wB w (64 - 0) := by
  intro f m h1 h2 hm
  have hf : f = 64 := Nat.le_antisymm (Nat.le_of_lt_succ h2) h1
  subst hf
  exact h m (e ▸ hm)
/-- the row of f: entries below mk stand, rows behind it stand -/
def wR (w : Nat → Int32) (j mk : Nat) : Prop := wB w (j + 1) ∧ ∀ m, m < mk → leB (w (256 * j + m)) j m
theorem wR_upd {w : Nat → Int32} {j mk : Nat} {v : Int32} (h : wR w j mk) (hj : j < 64) (hm : mk < 256) (hv : leB v j mk) : wR (upd w ((256 : Int32) * nI j + nI mk).toNatClampNeg v) j (mk + 1) := by
  rw [wix, nI_clamp (wx_lt (Nat.lt_succ_of_lt hj) hm)]
  refine ⟨fun f m h1 h2 h3 => ?_, fun m h1 => ?_⟩
  · rw [pk_un (by omega)]
    exact h.1 f m h1 h2 h3
  · by_cases q : m = mk
    · subst q
      rw [pk_us]
      exact hv
    · rw [pk_un (by omega)]
      exact h.2 m (by omega)
theorem wR_end {w : Nat → Int32} {i j mk : Nat} (h : wR w j mk) (e : mk = 256) (hj : i + j = 63) : wB w (64 - (i + 1)) := by
  intro f m h1 h2 h3
  by_cases q : f = j
  · subst q
    exact h.2 m (e ▸ h3)
  · exact h.1 f m (by omega) h2 h3
theorem fw_lt {i : Nat} (hi : i ≤ 64) (q : ¬ nI (64 - i) - 1 < 0) : ∃ j, i + j = 63 ∧ nI (64 - i) - 1 = nI j := by
  by_cases h : i = 64
  · subst h
    exact absurd (by decide) q
  · refine ⟨63 - i, by omega, ?_⟩
    rw [show 64 - i = (63 - i) + 1 by omega, nI_s1]
theorem fw_ge {i : Nat} (hi : i ≤ 64) (q : nI (64 - i) - 1 < 0) : i = 64 := by
  by_cases h : i = 64
  · exact h
  · rw [show 64 - i = (63 - i) + 1 by omega, nI_s1] at q
    exact absurd ((nI_ltI (a := 63 - i) (b := 0) (by omega) (by decide)).mp q) (Nat.not_lt_zero _)
theorem fw_dec {i j : Nat} (h : i + j = 63) : nI j + (-1) = nI (64 - (i + 1)) - 1 := by
  rw [show 64 - (i + 1) = j by omega, Int32.sub_eq_add_neg]
theorem wB_j {w : Nat → Int32} {i j : Nat} (h : wB w (64 - i)) (hj : i + j = 63) : wR w j 0 := by
  refine ⟨?_, fun m h1 => absurd h1 (Nat.not_lt_zero _)⟩
  rw [show 64 - i = j + 1 by omega] at h
  exact h
theorem ix16384 {i : Nat} (h : i < 256) : vp_in ((16384 : Int32) + nI i) 16640 := by
  rw [show (16384 : Int32) = nI 16384 from rfl, nI_add]
  exact vp_in_nI (by omega) (by decide)
def cOk (x : Int32) : Prop := ∃ n, n ≤ 531250000 ∧ x = nI n
theorem wB_cOk {w : Nat → Int32} (h : wB w (64 - 64)) : cOk (w ((256 : Int32) * 0 + 0).toNatClampNeg) := by
  obtain ⟨n, hn, e⟩ := h 0 0 (Nat.le_refl _) (by decide) (by decide)
  exact ⟨n, Nat.le_trans hn gB_0, e⟩
theorem dX10_findWays_191 : decode cX10_findWays 191 = .ok (.aload_n 0, 1) := by decide +kernel
theorem dX10_findWays_192 : decode cX10_findWays 192 = .ok (.getfield 45, 3) := by decide +kernel
theorem dX10_findWays_195 : decode cX10_findWays 195 = .ok (.sipush 256, 3) := by decide +kernel
theorem dX10_findWays_198 : decode cX10_findWays 198 = .ok (.iload_n 1, 1) := by decide +kernel
theorem dX10_findWays_199 : decode cX10_findWays 199 = .ok (.imul, 1) := by decide +kernel
theorem dX10_findWays_200 : decode cX10_findWays 200 = .ok (.iload 5, 2) := by decide +kernel
theorem dX10_findWays_202 : decode cX10_findWays 202 = .ok (.iadd, 1) := by decide +kernel
theorem dX10_findWays_203 : decode cX10_findWays 203 = .ok (.iload 7, 2) := by decide +kernel
theorem dX10_findWays_205 : decode cX10_findWays 205 = .ok (.iastore, 1) := by decide +kernel
theorem dX10_findWays_206 : decode cX10_findWays 206 = .ok (.iinc 5 1, 3) := by decide +kernel
theorem dX10_findWays_209 : decode cX10_findWays 209 = .ok (.goto (-141), 3) := by decide +kernel
theorem dX10_findWays_68 : decode cX10_findWays 68 = .ok (.iload 5, 2) := by decide +kernel
theorem dX10_findWays_70 : decode cX10_findWays 70 = .ok (.sipush 256, 3) := by decide +kernel
theorem dX10_findWays_73 : decode cX10_findWays 73 = .ok (.if_icmp .ge 139, 3) := by decide +kernel
theorem dX10_findWays_212 : decode cX10_findWays 212 = .ok (.iinc 1 (-1), 3) := by decide +kernel
theorem dX10_findWays_215 : decode cX10_findWays 215 = .ok (.goto (-178), 3) := by decide +kernel
theorem dX10_findWays_76 : decode cX10_findWays 76 = .ok (.iload 5, 2) := by decide +kernel
theorem dX10_findWays_78 : decode cX10_findWays 78 = .ok (.iconst 1, 1) := by decide +kernel
theorem dX10_findWays_79 : decode cX10_findWays 79 = .ok (.ishr, 1) := by decide +kernel
theorem dX10_findWays_80 : decode cX10_findWays 80 = .ok (.istore 6, 2) := by decide +kernel
theorem dX10_findWays_82 : decode cX10_findWays 82 = .ok (.iconst 0, 1) := by decide +kernel
theorem dX10_findWays_83 : decode cX10_findWays 83 = .ok (.istore 7, 2) := by decide +kernel
theorem dX10_findWays_85 : decode cX10_findWays 85 = .ok (.iload 5, 2) := by decide +kernel
theorem dX10_findWays_87 : decode cX10_findWays 87 = .ok (.iconst 1, 1) := by decide +kernel
theorem dX10_findWays_88 : decode cX10_findWays 88 = .ok (.iand, 1) := by decide +kernel
theorem dX10_findWays_89 : decode cX10_findWays 89 = .ok (.iconst 1, 1) := by decide +kernel
theorem dX10_findWays_90 : decode cX10_findWays 90 = .ok (.if_icmp .ne 25, 3) := by decide +kernel
theorem dX10_findWays_115 : decode cX10_findWays 115 = .ok (.iload_n 2, 1) := by decide +kernel
theorem dX10_findWays_116 : decode cX10_findWays 116 = .ok (.ifCond .ne 17, 3) := by decide +kernel
theorem dX10_findWays_133 : decode cX10_findWays 133 = .ok (.iload 7, 2) := by decide +kernel
theorem dX10_findWays_135 : decode cX10_findWays 135 = .ok (.iload_n 3, 1) := by decide +kernel
theorem dX10_findWays_136 : decode cX10_findWays 136 = .ok (.ifCond .eq 24, 3) := by decide +kernel
theorem dX10_findWays_160 : decode cX10_findWays 160 = .ok (.iconst 0, 1) := by decide +kernel
theorem dX10_findWays_161 : decode cX10_findWays 161 = .ok (.iadd, 1) := by decide +kernel
theorem dX10_findWays_162 : decode cX10_findWays 162 = .ok (.istore 7, 2) := by decide +kernel
theorem dX10_findWays_164 : decode cX10_findWays 164 = .ok (.iload 7, 2) := by decide +kernel
theorem dX10_findWays_166 : decode cX10_findWays 166 = .ok (.iload 4, 2) := by decide +kernel
theorem dX10_findWays_168 : decode cX10_findWays 168 = .ok (.ifCond .eq 19, 3) := by decide +kernel
theorem dX10_findWays_187 : decode cX10_findWays 187 = .ok (.iconst 0, 1) := by decide +kernel
theorem dX10_findWays_188 : decode cX10_findWays 188 = .ok (.iadd, 1) := by decide +kernel
theorem dX10_findWays_189 : decode cX10_findWays 189 = .ok (.istore 7, 2) := by decide +kernel
theorem dX10_findWays_171 : decode cX10_findWays 171 = .ok (.aload_n 0, 1) := by decide +kernel
theorem dX10_findWays_172 : decode cX10_findWays 172 = .ok (.iload_n 1, 1) := by decide +kernel
theorem dX10_findWays_173 : decode cX10_findWays 173 = .ok (.iconst 1, 1) := by decide +kernel
theorem dX10_findWays_174 : decode cX10_findWays 174 = .ok (.iadd, 1) := by decide +kernel
theorem dX10_findWays_175 : decode cX10_findWays 175 = .ok (.iload 6, 2) := by decide +kernel
theorem dX10_findWays_177 : decode cX10_findWays 177 = .ok (.sipush 128, 3) := by decide +kernel
theorem dX10_findWays_180 : decode cX10_findWays 180 = .ok (.ior, 1) := by decide +kernel
set_option maxRecDepth 20000 in
theorem ggX10_findWays_X10_waysAt : GoodIn wsX10_findWays wsX10_waysAt := goodIn_r _ [22, 1, 23, 24, 25, 26, 27, 28, 29, 30, 31, 32, 33, 34, 35, 36, 37, 38, 39, 40, 41, 42, 43, 44, 45, 46, 47, 48, 49, 50, 51, 52] rfl (by decide +kernel)
set_option maxRecDepth 20000 in
theorem gX10_findWays_X10_waysAt : GoodIn wsX10_findWays (wsV RX10 197 RX10 yX10_waysAt wsX10_waysAt) := goodIn_app (goodIn_r _ [19, 20, 21, 5] rfl (by decide +kernel)) ggX10_findWays_X10_waysAt
theorem dX10_findWays_181 : decode cX10_findWays 181 = .ok (.invokevirtual 197, 3) := by decide +kernel
theorem dX10_findWays_184 : decode cX10_findWays 184 = .ok (.goto 4, 3) := by decide +kernel
theorem dX10_findWays_139 : decode cX10_findWays 139 = .ok (.iload 5, 2) := by decide +kernel
theorem dX10_findWays_141 : decode cX10_findWays 141 = .ok (.iconst 2, 1) := by decide +kernel
theorem dX10_findWays_142 : decode cX10_findWays 142 = .ok (.iand, 1) := by decide +kernel
theorem dX10_findWays_143 : decode cX10_findWays 143 = .ok (.ifCond .ne 17, 3) := by decide +kernel
theorem dX10_findWays_146 : decode cX10_findWays 146 = .ok (.aload_n 0, 1) := by decide +kernel
theorem dX10_findWays_147 : decode cX10_findWays 147 = .ok (.iload_n 1, 1) := by decide +kernel
theorem dX10_findWays_148 : decode cX10_findWays 148 = .ok (.iconst 1, 1) := by decide +kernel
theorem dX10_findWays_149 : decode cX10_findWays 149 = .ok (.iadd, 1) := by decide +kernel
theorem dX10_findWays_150 : decode cX10_findWays 150 = .ok (.iload 6, 2) := by decide +kernel
theorem dX10_findWays_152 : decode cX10_findWays 152 = .ok (.iconst 1, 1) := by decide +kernel
theorem dX10_findWays_153 : decode cX10_findWays 153 = .ok (.ior, 1) := by decide +kernel
theorem dX10_findWays_154 : decode cX10_findWays 154 = .ok (.invokevirtual 197, 3) := by decide +kernel
theorem dX10_findWays_157 : decode cX10_findWays 157 = .ok (.goto 4, 3) := by decide +kernel
theorem dX10_findWays_119 : decode cX10_findWays 119 = .ok (.aload_n 0, 1) := by decide +kernel
theorem dX10_findWays_120 : decode cX10_findWays 120 = .ok (.iload_n 1, 1) := by decide +kernel
theorem dX10_findWays_121 : decode cX10_findWays 121 = .ok (.iconst 1, 1) := by decide +kernel
theorem dX10_findWays_122 : decode cX10_findWays 122 = .ok (.iadd, 1) := by decide +kernel
theorem dX10_findWays_123 : decode cX10_findWays 123 = .ok (.iload 6, 2) := by decide +kernel
theorem dX10_findWays_125 : decode cX10_findWays 125 = .ok (.invokevirtual 197, 3) := by decide +kernel
theorem dX10_findWays_128 : decode cX10_findWays 128 = .ok (.istore 7, 2) := by decide +kernel
theorem dX10_findWays_130 : decode cX10_findWays 130 = .ok (.goto 61, 3) := by decide +kernel
theorem dX10_findWays_93 : decode cX10_findWays 93 = .ok (.iload_n 2, 1) := by decide +kernel
theorem dX10_findWays_94 : decode cX10_findWays 94 = .ok (.ifCond .eq 15, 3) := by decide +kernel
theorem dX10_findWays_109 : decode cX10_findWays 109 = .ok (.iconst 0, 1) := by decide +kernel
theorem dX10_findWays_110 : decode cX10_findWays 110 = .ok (.istore 7, 2) := by decide +kernel
theorem dX10_findWays_112 : decode cX10_findWays 112 = .ok (.goto 79, 3) := by decide +kernel
theorem dX10_findWays_97 : decode cX10_findWays 97 = .ok (.aload_n 0, 1) := by decide +kernel
theorem dX10_findWays_98 : decode cX10_findWays 98 = .ok (.iload_n 1, 1) := by decide +kernel
theorem dX10_findWays_99 : decode cX10_findWays 99 = .ok (.iconst 1, 1) := by decide +kernel
theorem dX10_findWays_100 : decode cX10_findWays 100 = .ok (.iadd, 1) := by decide +kernel
theorem dX10_findWays_101 : decode cX10_findWays 101 = .ok (.iload 6, 2) := by decide +kernel
theorem dX10_findWays_103 : decode cX10_findWays 103 = .ok (.invokevirtual 197, 3) := by decide +kernel
theorem dX10_findWays_106 : decode cX10_findWays 106 = .ok (.goto 4, 3) := by decide +kernel
theorem dX10_findWays_37 : decode cX10_findWays 37 = .ok (.iload_n 1, 1) := by decide +kernel
theorem dX10_findWays_38 : decode cX10_findWays 38 = .ok (.ifCond .lt 180, 3) := by decide +kernel
theorem dX10_findWays_218 : decode cX10_findWays 218 = .ok (.return_, 1) := by decide +kernel
theorem dX10_findWays_41 : decode cX10_findWays 41 = .ok (.aload_n 0, 1) := by decide +kernel
theorem dX10_findWays_42 : decode cX10_findWays 42 = .ok (.getfield 81, 3) := by decide +kernel
theorem dX10_findWays_45 : decode cX10_findWays 45 = .ok (.iload_n 1, 1) := by decide +kernel
set_option maxRecDepth 20000 in
theorem ggX10_findWays_X10_hasBit : GoodIn wsX10_findWays wsX10_hasBit := goodIn_r _ [6] rfl (by decide +kernel)
set_option maxRecDepth 20000 in
theorem gX10_findWays_X10_hasBit : GoodIn wsX10_findWays (va_wsS RX10 74 yX10_hasBit wsX10_hasBit) := goodIn_app (goodIn_r _ [3, 4, 5] rfl (by decide +kernel)) ggX10_findWays_X10_hasBit
theorem dX10_findWays_46 : decode cX10_findWays 46 = .ok (.invokestatic 74, 3) := by decide +kernel
theorem dX10_findWays_49 : decode cX10_findWays 49 = .ok (.istore_n 2, 1) := by decide +kernel
theorem dX10_findWays_50 : decode cX10_findWays 50 = .ok (.aload_n 0, 1) := by decide +kernel
theorem dX10_findWays_51 : decode cX10_findWays 51 = .ok (.iload_n 1, 1) := by decide +kernel
theorem dX10_findWays_52 : decode cX10_findWays 52 = .ok (.iconst 0, 1) := by decide +kernel
set_option maxRecDepth 20000 in
theorem ggX10_findWays_X10_mayLie : GoodIn wsX10_findWays wsX10_mayLie := goodIn_r _ [10, 2, 11, 12, 13, 14, 15, 16, 5, 17, 18, 3, 4, 6, 23, 24, 25, 26, 27, 28, 29, 30, 31, 32, 33, 34, 35, 36, 37, 38, 39, 40, 41, 42, 43, 44, 45, 46, 47, 48, 49, 50, 51, 52] rfl (by decide +kernel)
set_option maxRecDepth 20000 in
theorem gX10_findWays_X10_mayLie : GoodIn wsX10_findWays (wsV RX10 194 RX10 yX10_mayLie wsX10_mayLie) := goodIn_app (goodIn_r _ [7, 8, 9, 5] rfl (by decide +kernel)) ggX10_findWays_X10_mayLie
theorem dX10_findWays_53 : decode cX10_findWays 53 = .ok (.invokevirtual 194, 3) := by decide +kernel
theorem dX10_findWays_56 : decode cX10_findWays 56 = .ok (.istore_n 3, 1) := by decide +kernel
theorem dX10_findWays_57 : decode cX10_findWays 57 = .ok (.aload_n 0, 1) := by decide +kernel
theorem dX10_findWays_58 : decode cX10_findWays 58 = .ok (.iload_n 1, 1) := by decide +kernel
theorem dX10_findWays_59 : decode cX10_findWays 59 = .ok (.iconst 1, 1) := by decide +kernel
theorem dX10_findWays_60 : decode cX10_findWays 60 = .ok (.invokevirtual 194, 3) := by decide +kernel
theorem dX10_findWays_63 : decode cX10_findWays 63 = .ok (.istore 4, 2) := by decide +kernel
theorem dX10_findWays_65 : decode cX10_findWays 65 = .ok (.iconst 0, 1) := by decide +kernel
theorem dX10_findWays_66 : decode cX10_findWays 66 = .ok (.istore 5, 2) := by decide +kernel
theorem dX10_findWays_2 : decode cX10_findWays 2 = .ok (.iload_n 1, 1) := by decide +kernel
theorem dX10_findWays_3 : decode cX10_findWays 3 = .ok (.sipush 256, 3) := by decide +kernel
theorem dX10_findWays_6 : decode cX10_findWays 6 = .ok (.if_icmp .ge 28, 3) := by decide +kernel
theorem dX10_findWays_34 : decode cX10_findWays 34 = .ok (.bipush 63, 2) := by decide +kernel
theorem dX10_findWays_36 : decode cX10_findWays 36 = .ok (.istore_n 1, 1) := by decide +kernel
theorem dX10_findWays_9 : decode cX10_findWays 9 = .ok (.aload_n 0, 1) := by decide +kernel
theorem dX10_findWays_10 : decode cX10_findWays 10 = .ok (.getfield 45, 3) := by decide +kernel
theorem dX10_findWays_13 : decode cX10_findWays 13 = .ok (.sipush 16384, 3) := by decide +kernel
theorem dX10_findWays_16 : decode cX10_findWays 16 = .ok (.iload_n 1, 1) := by decide +kernel
theorem dX10_findWays_17 : decode cX10_findWays 17 = .ok (.iadd, 1) := by decide +kernel
theorem dX10_findWays_18 : decode cX10_findWays 18 = .ok (.iload_n 1, 1) := by decide +kernel
theorem dX10_findWays_19 : decode cX10_findWays 19 = .ok (.ifCond .ne 7, 3) := by decide +kernel
theorem dX10_findWays_26 : decode cX10_findWays 26 = .ok (.iconst 0, 1) := by decide +kernel
theorem dX10_findWays_27 : decode cX10_findWays 27 = .ok (.iastore, 1) := by decide +kernel
theorem dX10_findWays_28 : decode cX10_findWays 28 = .ok (.iinc 1 1, 3) := by decide +kernel
theorem dX10_findWays_31 : decode cX10_findWays 31 = .ok (.goto (-29), 3) := by decide +kernel
theorem dX10_findWays_22 : decode cX10_findWays 22 = .ok (.iconst 1, 1) := by decide +kernel
theorem dX10_findWays_23 : decode cX10_findWays 23 = .ok (.goto 4, 3) := by decide +kernel
theorem dX10_findWays_0 : decode cX10_findWays 0 = .ok (.iconst 0, 1) := by decide +kernel
theorem dX10_findWays_1 : decode cX10_findWays 1 = .ok (.istore_n 1, 1) := by decide +kernel
set_option maxRecDepth 20000 in
theorem ihX10_findWays_10 : ∀ w ∈ u_ws RX10 TX10 30, w ∈ wsX10_findWays := fun _ h => List.mem_cons_of_mem _ (List.mem_append_right _ h)
set_option maxHeartbeats 4000000 in
set_option maxRecDepth 100000 in
theorem t_X10_findWays (l : Launch) (D : va_G) (cy : Nat → ClassId) (a : Nat → Nat) (sz : Nat) (J : Nat → Int64) (I : Nat → Int32) (R : Nat → Nat → Int32) (RJ : Nat → Nat → Int64)  : Met l yX10_findWays wsX10_findWays ({ frames := 2, cells := 0, slots := 0, locals := 46 }) (va_Pc [.ref (a 0)] (PW D cy sz (MW cy a J I R RJ))) (va_Qv (fun (u : MS) => ∃ (w0 : Nat → Int32), ((wB w0 (64 - 64))) ∧ u = (J, I, (va_up R 12 w0), RJ)) (BW D (va_A (MW cy a J I R RJ) sz) (MWu cy a)) (va_A (MW cy a J I R RJ) sz)) 0 0 (va_A (MW cy a J I R RJ) sz) := by
  refine Met.ofW (cc := cX10_findWays) (maxL := 8) (ret := none) (by decide) rfl ?_
  intro p e s m args below meth c s₁ B hml hv
  obtain ⟨rfl, rfl, hP, hK, hN, hD0⟩ := hv
  have hx := B.exec
  have hb := B.bytes
  have hr := B.returns
  have hts := atoms_spec (ws := wsX10_findWays) B.pre
  have hown : s.vm.findClass RX10 = some m.cls := findClass_of_methodNamed B.named
  have hlocks := B.notSynchronized
  have hw0 := hts (.fieldLink RX10 45 "ParquetLayerModel" "ways" "[I") (by decide +kernel)
  have hw1 := hts (.fieldLink RX10 81 "ParquetLayerModel" "floor" "J") (by decide +kernel)
  have hi10 := ihX10_findWays_10
  have hD := hD0.self (sz := s.heap.size)
  generalize hAe : va_A (MW cy a J I R RJ) s.heap.size = A at hD ⊢
  have hA : ∀ q : Nat, s.heap.size ≤ q → A q := fun q h => by rw [← hAe]; exact Or.inr h
  have hS : va_S A s.heap s.heap [] := va_S.rf
  have hl := lv_entry ([.ref (a 0)]) (n := 8) (Nat.le_of_ble_eq_true rfl)
  rw [lg_entry_eq]
  generalize (lg_sl ([.ref (a 0)]) ++ List.replicate (8 - (lg_sl ([.ref (a 0)])).length) Slot.unset).toArray = ls at hl ⊢
  have hl : lv_has ls 8 [(0, .ref (a 0))] := hl
  have hP : va_P D vwCl (MW cy a J I (va_up R 12 (R 12)) RJ) s.heap := hP
  have hD : va_D A (MW cy a J I (va_up R 12 (R 12)) RJ) := hD
  have lp37 : ∀ (n37 : Nat), ∀ (i : Nat) (m0_37 : Nat → Int32), (i ≤ 64) → (wB m0_37 (64 - i)) → (64 - i) < n37 → ∀ (H : Heap) (locs : List Loc), va_P D vwCl (MW cy a J I (va_up R 12 m0_37) RJ) H → va_D A (MW cy a J I (va_up R 12 m0_37) RJ) → va_S A s.heap H locs → ∀ (ls : Array Slot), lv_has ls 8 [(0, .ref (a 0)), (1, .int (nI (64 - i) - 1))] → W p l e (headSpec wsX10_findWays ({ frames := 2, cells := 0, slots := 0, locals := 46 })).room s m ([.ref (a 0)] : List Value).toArray below meth c H locs 0 0 (MQ below (va_Qv (fun (u : MS) => ∃ (w0 : Nat → Int32), ((wB w0 (64 - 64))) ∧ u = (J, I, (va_up R 12 w0), RJ)) (BW D A (MWu cy a)) A) ([.ref (a 0)] : List Value).toArray s 0 0 A) (F0 m 37 ls []) := by
    intro n37
    induction n37 with
    | zero => intro i m0_37 hi hw hn; exact absurd hn (Nat.not_lt_zero _)
    | succ n37 ih37 =>
      intro i m0_37 hi hw hn37 H locs hP hD hS ls hl
      have lp68 : ∀ (n68 : Nat), ∀ (mk : Nat) (j : Nat) (v2_68 : Bool) (v3_68 : Bool) (v4_68 : Bool) (m0_68 : Nat → Int32), (mk ≤ 256) → (i + j = 63) → (v3_68 = true → j % 8 < 7) → (v4_68 = true → j < 56) → (wR m0_68 j mk) → (256 - mk) < n68 → ∀ (H : Heap) (locs : List Loc), va_P D vwCl (MW cy a J I (va_up R 12 m0_68) RJ) H → va_D A (MW cy a J I (va_up R 12 m0_68) RJ) → va_S A s.heap H locs → ∀ (ls : Array Slot), lv_has ls 8 [(0, .ref (a 0)), (1, .int (nI j)), (2, .int (bI v2_68)), (3, .int (bI v3_68)), (4, .int (bI v4_68)), (5, .int (nI mk))] → W p l e (headSpec wsX10_findWays ({ frames := 2, cells := 0, slots := 0, locals := 46 })).room s m ([.ref (a 0)] : List Value).toArray below meth c H locs 0 0 (MQ below (va_Qv (fun (u : MS) => ∃ (w0 : Nat → Int32), ((wB w0 (64 - 64))) ∧ u = (J, I, (va_up R 12 w0), RJ)) (BW D A (MWu cy a)) A) ([.ref (a 0)] : List Value).toArray s 0 0 A) (F0 m 68 ls []) := by
        intro n68
        induction n68 with
        | zero => intro mk j v2_68 v3_68 v4_68 m0_68 hmk hj ha hbb hw hn; exact absurd hn (Nat.not_lt_zero _)
        | succ n68 ih68 =>
          intro mk j v2_68 v3_68 v4_68 m0_68 hmk hj ha hbb hw hn68 H locs hP hD hS ls hl
          have lp191 : ∀ (v7_191 : Int32) (m0_191 : Nat → Int32), (wR m0_191 j mk) → (mk < 256) → (leB v7_191 j mk) → ∀ (H : Heap) (locs : List Loc), va_P D vwCl (MW cy a J I (va_up R 12 m0_191) RJ) H → va_D A (MW cy a J I (va_up R 12 m0_191) RJ) → va_S A s.heap H locs → ∀ (ls : Array Slot), lv_has ls 8 [(0, .ref (a 0)), (1, .int (nI j)), (2, .int (bI v2_68)), (3, .int (bI v3_68)), (4, .int (bI v4_68)), (5, .int (nI mk)), (7, .int v7_191)] → W p l e (headSpec wsX10_findWays ({ frames := 2, cells := 0, slots := 0, locals := 46 })).room s m ([.ref (a 0)] : List Value).toArray below meth c H locs 0 0 (MQ below (va_Qv (fun (u : MS) => ∃ (w0 : Nat → Int32), ((wB w0 (64 - 64))) ∧ u = (J, I, (va_up R 12 w0), RJ)) (BW D A (MWu cy a)) A) ([.ref (a 0)] : List Value).toArray s 0 0 A) (F0 m 191 ls []) := by
            intro v7_191 m0_191 hw hlt_mk hv H locs hP hD hS ls hl
            refine lv_aload_n hx hb dX10_findWays_191 rfl (lv_at hl 0 rfl) ?_
            refine va_get (D := D) (ci := 9) (v := .ref (a 12)) (C := RX10) (T := TX10) (N := 30) hx hb hts hi10 hown hK hP 0 rfl rfl 18 (by decide) hw0 (fun _ h9 => h9) rfl dX10_findWays_192 ?_
            refine lv_sipush (v := 256) hx hb dX10_findWays_195 (by decide) ?_
            refine lv_iload_n hx hb dX10_findWays_198 rfl (lv_at hl 1 rfl) ?_
            refine lv_imul hx hb dX10_findWays_199 ?_
            refine lv_iload hx hb dX10_findWays_200 (lv_at hl 5 rfl) ?_
            refine lv_iadd hx hb dX10_findWays_202 ?_
            refine lv_iload hx hb dX10_findWays_203 (lv_at hl 6 rfl) ?_
            refine va_iast hx hb hK hP hD hS 12 0 rfl rfl (ix_w (by omega) hlt_mk) dX10_findWays_205 (fun H locs hP hD hS => ?_)
            have hP : va_P D vwCl (MW cy a J I (va_up R 12 (upd m0_191 ((256 * (nI j)) + (nI mk)).toNatClampNeg v7_191)) RJ) H := hP
            have hD : va_D A (MW cy a J I (va_up R 12 (upd m0_191 ((256 * (nI j)) + (nI mk)).toNatClampNeg v7_191)) RJ) := hD
            refine lv_iinc (v := nI (mk + 1)) (lv' := [(5, .int (nI (mk + 1))), (0, .ref (a 0)), (1, .int (nI j)), (2, .int (bI v2_68)), (3, .int (bI v3_68)), (4, .int (bI v4_68)), (7, .int v7_191)]) hx hb dX10_findWays_206 hl (k := 5) rfl (nI_1 _) (by decide) rfl (fun ls hl => ?_)
            refine lv_goto (tgt := 68) hx hb dX10_findWays_209 (by decide) ?_
            exact ih68 (mk + 1) j v2_68 v3_68 v4_68 (upd m0_191 ((256 * (nI j)) + (nI mk)).toNatClampNeg v7_191) hlt_mk hj ha hbb (wR_upd hw (by omega) hlt_mk hv) (lt_dec hlt_mk hn68) _ _ hP hD hS ls (lv_sub hl [1, 2, 3, 4, 5, 0] rfl)
          refine lv_iload hx hb dX10_findWays_68 (lv_at hl 5 rfl) ?_
          refine lv_sipush (v := 256) hx hb dX10_findWays_70 (by decide) ?_
          refine lv_icmp_ge (tgt := 212) hx hb dX10_findWays_73 (by decide) (fun c_1 => ?_) (fun c_1 => ?_)
          · have hme := ctr_ge (N := 256) (by decide) hmk c_1
            refine lv_iinc (v := nI (64 - (i + 1)) - 1) (lv' := [(1, .int (nI (64 - (i + 1)) - 1)), (0, .ref (a 0)), (2, .int (bI v2_68)), (3, .int (bI v3_68)), (4, .int (bI v4_68)), (5, .int (nI mk))]) hx hb dX10_findWays_212 hl (k := 1) rfl (fw_dec hj) (by decide) rfl (fun ls hl => ?_)
            refine lv_goto (tgt := 37) hx hb dX10_findWays_215 (by decide) ?_
            exact ih37 (i + 1) m0_68 (by omega) (wR_end hw hme hj) (by omega) _ _ hP hD hS ls (lv_sub hl [1, 0] rfl)
          · have hlt_mk := ctr_lt (N := 256) (by decide) hmk c_1
            refine lv_iload hx hb dX10_findWays_76 (lv_at hl 5 rfl) ?_
            refine lv_iconst (v := 1) hx hb dX10_findWays_78 (by decide) ?_
            refine lv_ishr hx hb dX10_findWays_79 ?_
            refine wtop_i (y := nI (mk / 2)) (pk_shrN (by omega) _ 1 (by decide)) ?_
            refine lv_istore (lv' := [(6, .int (nI (mk / 2))), (0, .ref (a 0)), (1, .int (nI j)), (2, .int (bI v2_68)), (3, .int (bI v3_68)), (4, .int (bI v4_68)), (5, .int (nI mk))]) hx hb dX10_findWays_80 hl (by decide) rfl (fun ls hl => ?_)
            refine lv_iconst (v := 0) hx hb dX10_findWays_82 (by decide) ?_
            refine lv_istore (lv' := [(7, .int 0), (6, .int (nI (mk / 2))), (0, .ref (a 0)), (1, .int (nI j)), (2, .int (bI v2_68)), (3, .int (bI v3_68)), (4, .int (bI v4_68)), (5, .int (nI mk))]) hx hb dX10_findWays_83 hl (by decide) rfl (fun ls hl => ?_)
            refine lv_iload hx hb dX10_findWays_85 (lv_at hl 7 rfl) ?_
            refine lv_iconst (v := 1) hx hb dX10_findWays_87 (by decide) ?_
            refine lv_iand hx hb dX10_findWays_88 ?_
            refine lv_iconst (v := 1) hx hb dX10_findWays_89 (by decide) ?_
            refine lv_icmp_ne (tgt := 115) hx hb dX10_findWays_90 (by decide) (fun c_2 => ?_) (fun c_2 => ?_)
            · refine lv_iload_n hx hb dX10_findWays_115 rfl (lv_at hl 4 rfl) ?_
              refine lv_if_ne (tgt := 133) hx hb dX10_findWays_116 (by decide) (fun c_3 => ?_) (fun c_3 => ?_)
              · replace c_3 := bI_t c_3
                refine lv_iload hx hb dX10_findWays_133 (lv_at hl 0 rfl) ?_
                refine lv_iload_n hx hb dX10_findWays_135 rfl (lv_at hl 5 rfl) ?_
                refine lv_if_eq (tgt := 160) hx hb dX10_findWays_136 (by decide) (fun c_4 => ?_) (fun c_4 => ?_)
                · replace c_4 := bI_f c_4
                  refine lv_iconst (v := 0) hx hb dX10_findWays_160 (by decide) ?_
                  refine lv_iadd hx hb dX10_findWays_161 ?_
                  refine wtop_i (y := 0) (by decide) ?_
                  refine lv_istore (lv' := [(7, .int 0), (6, .int (nI (mk / 2))), (0, .ref (a 0)), (1, .int (nI j)), (2, .int (bI v2_68)), (3, .int (bI v3_68)), (4, .int (bI v4_68)), (5, .int (nI mk))]) hx hb dX10_findWays_162 hl (by decide) rfl (fun ls hl => ?_)
                  refine lv_iload hx hb dX10_findWays_164 (lv_at hl 0 rfl) ?_
                  refine lv_iload hx hb dX10_findWays_166 (lv_at hl 6 rfl) ?_
                  refine lv_if_eq (tgt := 187) hx hb dX10_findWays_168 (by decide) (fun c_5 => ?_) (fun c_5 => ?_)
                  · replace c_5 := bI_f c_5
                    refine lv_iconst (v := 0) hx hb dX10_findWays_187 (by decide) ?_
                    refine lv_iadd hx hb dX10_findWays_188 ?_
                    refine wtop_i (y := 0) (by decide) ?_
                    refine lv_istore (lv' := [(7, .int 0), (6, .int (nI (mk / 2))), (0, .ref (a 0)), (1, .int (nI j)), (2, .int (bI v2_68)), (3, .int (bI v3_68)), (4, .int (bI v4_68)), (5, .int (nI mk))]) hx hb dX10_findWays_189 hl (by decide) rfl (fun ls hl => ?_)
                    exact lp191 (0 : Int32) m0_68 hw hlt_mk leB_0  _ _ hP hD hS ls (lv_sub hl [2, 3, 4, 5, 6, 7, 0] rfl)
                  · replace c_5 := bI_t c_5
                    refine lv_aload_n hx hb dX10_findWays_171 rfl (lv_at hl 2 rfl) ?_
                    refine lv_iload_n hx hb dX10_findWays_172 rfl (lv_at hl 3 rfl) ?_
                    refine lv_iconst (v := 1) hx hb dX10_findWays_173 (by decide) ?_
                    refine lv_iadd hx hb dX10_findWays_174 ?_
                    refine wtop_i (y := nI (j + 1)) (nI_1 _) ?_
                    refine lv_iload hx hb dX10_findWays_175 (lv_at hl 1 rfl) ?_
                    refine lv_sipush (v := 128) hx hb dX10_findWays_177 (by decide) ?_
                    refine lv_ior hx hb dX10_findWays_180 ?_
                    refine wtop_i (y := nI (mk / 2 + 128)) (or128_t ⟨mk / 2, by omega⟩) ?_
                    refine kR_i (As := [.int (nI (j + 1)), .int (nI (mk / 2 + 128))]) (rest := [.int 0]) (q0 := 0) ⟨hx, hb, hml, hown, hts⟩ (c_X10_waysAt l D cy a _ J I (va_up R 12 m0_68) RJ (nI (j + 1)) (nI (mk / 2 + 128)) (ix_w (by omega) (by omega))) (cwV 2 hts gX10_findWays_X10_waysAt rfl rfl rfl (by decide +kernel) ⟨Nat.le_of_ble_eq_true rfl, Nat.le_of_ble_eq_true rfl⟩) hK hN hP hD rfl rfl rfl hl.1 rfl (Nat.le_of_ble_eq_true rfl) dX10_findWays_181 ⟨Nat.le_of_ble_eq_true rfl, Nat.le_of_ble_eq_true rfl⟩ ?_
                    refine lv_goto (tgt := 188) hx hb dX10_findWays_184 (by decide) ?_
                    refine lv_iadd hx hb dX10_findWays_188 ?_
                    refine lv_istore (lv' := [(7, .int (0 + (m0_68 ((256 : Int32) * (nI (j + 1)) + (nI (mk / 2 + 128))).toNatClampNeg))), (6, .int (nI (mk / 2))), (0, .ref (a 0)), (1, .int (nI j)), (2, .int (bI v2_68)), (3, .int (bI v3_68)), (4, .int (bI v4_68)), (5, .int (nI mk))]) hx hb dX10_findWays_189 hl (by decide) rfl (fun ls hl => ?_)
                    exact lp191 (0 + (m0_68 ((256 : Int32) * (nI (j + 1)) + (nI (mk / 2 + 128))).toNatClampNeg)) m0_68 hw hlt_mk (leB_s2 hw.1 (by omega) hlt_mk (mk1_t ⟨mk, hlt_mk⟩ c_2) (hbb c_5))  _ _ hP hD hS ls (lv_sub hl [2, 3, 4, 5, 6, 7, 0] rfl)
                · replace c_4 := bI_t c_4
                  refine lv_iload hx hb dX10_findWays_139 (lv_at hl 7 rfl) ?_
                  refine lv_iconst (v := 2) hx hb dX10_findWays_141 (by decide) ?_
                  refine lv_iand hx hb dX10_findWays_142 ?_
                  refine lv_if_ne (tgt := 160) hx hb dX10_findWays_143 (by decide) (fun c_6 => ?_) (fun c_6 => ?_)
                  · refine lv_iconst (v := 0) hx hb dX10_findWays_160 (by decide) ?_
                    refine lv_iadd hx hb dX10_findWays_161 ?_
                    refine wtop_i (y := 0) (by decide) ?_
                    refine lv_istore (lv' := [(7, .int 0), (6, .int (nI (mk / 2))), (0, .ref (a 0)), (1, .int (nI j)), (2, .int (bI v2_68)), (3, .int (bI v3_68)), (4, .int (bI v4_68)), (5, .int (nI mk))]) hx hb dX10_findWays_162 hl (by decide) rfl (fun ls hl => ?_)
                    refine lv_iload hx hb dX10_findWays_164 (lv_at hl 0 rfl) ?_
                    refine lv_iload hx hb dX10_findWays_166 (lv_at hl 6 rfl) ?_
                    refine lv_if_eq (tgt := 187) hx hb dX10_findWays_168 (by decide) (fun c_7 => ?_) (fun c_7 => ?_)
                    · replace c_7 := bI_f c_7
                      refine lv_iconst (v := 0) hx hb dX10_findWays_187 (by decide) ?_
                      refine lv_iadd hx hb dX10_findWays_188 ?_
                      refine wtop_i (y := 0) (by decide) ?_
                      refine lv_istore (lv' := [(7, .int 0), (6, .int (nI (mk / 2))), (0, .ref (a 0)), (1, .int (nI j)), (2, .int (bI v2_68)), (3, .int (bI v3_68)), (4, .int (bI v4_68)), (5, .int (nI mk))]) hx hb dX10_findWays_189 hl (by decide) rfl (fun ls hl => ?_)
                      exact lp191 (0 : Int32) m0_68 hw hlt_mk leB_0  _ _ hP hD hS ls (lv_sub hl [2, 3, 4, 5, 6, 7, 0] rfl)
                    · replace c_7 := bI_t c_7
                      refine lv_aload_n hx hb dX10_findWays_171 rfl (lv_at hl 2 rfl) ?_
                      refine lv_iload_n hx hb dX10_findWays_172 rfl (lv_at hl 3 rfl) ?_
                      refine lv_iconst (v := 1) hx hb dX10_findWays_173 (by decide) ?_
                      refine lv_iadd hx hb dX10_findWays_174 ?_
                      refine wtop_i (y := nI (j + 1)) (nI_1 _) ?_
                      refine lv_iload hx hb dX10_findWays_175 (lv_at hl 1 rfl) ?_
                      refine lv_sipush (v := 128) hx hb dX10_findWays_177 (by decide) ?_
                      refine lv_ior hx hb dX10_findWays_180 ?_
                      refine wtop_i (y := nI (mk / 2 + 128)) (or128_t ⟨mk / 2, by omega⟩) ?_
                      refine kR_i (As := [.int (nI (j + 1)), .int (nI (mk / 2 + 128))]) (rest := [.int 0]) (q0 := 0) ⟨hx, hb, hml, hown, hts⟩ (c_X10_waysAt l D cy a _ J I (va_up R 12 m0_68) RJ (nI (j + 1)) (nI (mk / 2 + 128)) (ix_w (by omega) (by omega))) (cwV 2 hts gX10_findWays_X10_waysAt rfl rfl rfl (by decide +kernel) ⟨Nat.le_of_ble_eq_true rfl, Nat.le_of_ble_eq_true rfl⟩) hK hN hP hD rfl rfl rfl hl.1 rfl (Nat.le_of_ble_eq_true rfl) dX10_findWays_181 ⟨Nat.le_of_ble_eq_true rfl, Nat.le_of_ble_eq_true rfl⟩ ?_
                      refine lv_goto (tgt := 188) hx hb dX10_findWays_184 (by decide) ?_
                      refine lv_iadd hx hb dX10_findWays_188 ?_
                      refine lv_istore (lv' := [(7, .int (0 + (m0_68 ((256 : Int32) * (nI (j + 1)) + (nI (mk / 2 + 128))).toNatClampNeg))), (6, .int (nI (mk / 2))), (0, .ref (a 0)), (1, .int (nI j)), (2, .int (bI v2_68)), (3, .int (bI v3_68)), (4, .int (bI v4_68)), (5, .int (nI mk))]) hx hb dX10_findWays_189 hl (by decide) rfl (fun ls hl => ?_)
                      exact lp191 (0 + (m0_68 ((256 : Int32) * (nI (j + 1)) + (nI (mk / 2 + 128))).toNatClampNeg)) m0_68 hw hlt_mk (leB_s2 hw.1 (by omega) hlt_mk (mk1_t ⟨mk, hlt_mk⟩ c_2) (hbb c_7))  _ _ hP hD hS ls (lv_sub hl [2, 3, 4, 5, 6, 7, 0] rfl)
                  · refine lv_aload_n hx hb dX10_findWays_146 rfl (lv_at hl 2 rfl) ?_
                    refine lv_iload_n hx hb dX10_findWays_147 rfl (lv_at hl 3 rfl) ?_
                    refine lv_iconst (v := 1) hx hb dX10_findWays_148 (by decide) ?_
                    refine lv_iadd hx hb dX10_findWays_149 ?_
                    refine wtop_i (y := nI (j + 1)) (nI_1 _) ?_
                    refine lv_iload hx hb dX10_findWays_150 (lv_at hl 1 rfl) ?_
                    refine lv_iconst (v := 1) hx hb dX10_findWays_152 (by decide) ?_
                    refine lv_ior hx hb dX10_findWays_153 ?_
                    refine wtop_i (y := nI (mk / 2 / 2 * 2 + 1)) (or1_t ⟨mk / 2, by omega⟩) ?_
                    refine kR_i (As := [.int (nI (j + 1)), .int (nI (mk / 2 / 2 * 2 + 1))]) (rest := [.int 0]) (q0 := 0) ⟨hx, hb, hml, hown, hts⟩ (c_X10_waysAt l D cy a _ J I (va_up R 12 m0_68) RJ (nI (j + 1)) (nI (mk / 2 / 2 * 2 + 1)) (ix_w (by omega) (by omega))) (cwV 2 hts gX10_findWays_X10_waysAt rfl rfl rfl (by decide +kernel) ⟨Nat.le_of_ble_eq_true rfl, Nat.le_of_ble_eq_true rfl⟩) hK hN hP hD rfl rfl rfl hl.1 rfl (Nat.le_of_ble_eq_true rfl) dX10_findWays_154 ⟨Nat.le_of_ble_eq_true rfl, Nat.le_of_ble_eq_true rfl⟩ ?_
                    refine lv_goto (tgt := 161) hx hb dX10_findWays_157 (by decide) ?_
                    refine lv_iadd hx hb dX10_findWays_161 ?_
                    refine lv_istore (lv' := [(7, .int (0 + (m0_68 ((256 : Int32) * (nI (j + 1)) + (nI (mk / 2 / 2 * 2 + 1))).toNatClampNeg))), (6, .int (nI (mk / 2))), (0, .ref (a 0)), (1, .int (nI j)), (2, .int (bI v2_68)), (3, .int (bI v3_68)), (4, .int (bI v4_68)), (5, .int (nI mk))]) hx hb dX10_findWays_162 hl (by decide) rfl (fun ls hl => ?_)
                    refine lv_iload hx hb dX10_findWays_164 (lv_at hl 0 rfl) ?_
                    refine lv_iload hx hb dX10_findWays_166 (lv_at hl 6 rfl) ?_
                    refine lv_if_eq (tgt := 187) hx hb dX10_findWays_168 (by decide) (fun c_8 => ?_) (fun c_8 => ?_)
                    · replace c_8 := bI_f c_8
                      refine lv_iconst (v := 0) hx hb dX10_findWays_187 (by decide) ?_
                      refine lv_iadd hx hb dX10_findWays_188 ?_
                      refine lv_istore (lv' := [(7, .int ((0 + (m0_68 ((256 : Int32) * (nI (j + 1)) + (nI (mk / 2 / 2 * 2 + 1))).toNatClampNeg)) + 0)), (6, .int (nI (mk / 2))), (0, .ref (a 0)), (1, .int (nI j)), (2, .int (bI v2_68)), (3, .int (bI v3_68)), (4, .int (bI v4_68)), (5, .int (nI mk))]) hx hb dX10_findWays_189 hl (by decide) rfl (fun ls hl => ?_)
                      exact lp191 ((0 + (m0_68 ((256 : Int32) * (nI (j + 1)) + (nI (mk / 2 / 2 * 2 + 1))).toNatClampNeg)) + 0) m0_68 hw hlt_mk (leB_s1 hw.1 (by omega) hlt_mk (mk1_t ⟨mk, hlt_mk⟩ c_2) (mk2_t ⟨mk, hlt_mk⟩ c_6) (ha c_4))  _ _ hP hD hS ls (lv_sub hl [2, 3, 4, 5, 6, 7, 0] rfl)
                    · replace c_8 := bI_t c_8
                      refine lv_aload_n hx hb dX10_findWays_171 rfl (lv_at hl 2 rfl) ?_
                      refine lv_iload_n hx hb dX10_findWays_172 rfl (lv_at hl 3 rfl) ?_
                      refine lv_iconst (v := 1) hx hb dX10_findWays_173 (by decide) ?_
                      refine lv_iadd hx hb dX10_findWays_174 ?_
                      refine wtop_i (y := nI (j + 1)) (nI_1 _) ?_
                      refine lv_iload hx hb dX10_findWays_175 (lv_at hl 1 rfl) ?_
                      refine lv_sipush (v := 128) hx hb dX10_findWays_177 (by decide) ?_
                      refine lv_ior hx hb dX10_findWays_180 ?_
                      refine wtop_i (y := nI (mk / 2 + 128)) (or128_t ⟨mk / 2, by omega⟩) ?_
                      refine kR_i (As := [.int (nI (j + 1)), .int (nI (mk / 2 + 128))]) (rest := [.int (0 + (m0_68 ((256 : Int32) * (nI (j + 1)) + (nI (mk / 2 / 2 * 2 + 1))).toNatClampNeg))]) (q0 := 0) ⟨hx, hb, hml, hown, hts⟩ (c_X10_waysAt l D cy a _ J I (va_up R 12 m0_68) RJ (nI (j + 1)) (nI (mk / 2 + 128)) (ix_w (by omega) (by omega))) (cwV 2 hts gX10_findWays_X10_waysAt rfl rfl rfl (by decide +kernel) ⟨Nat.le_of_ble_eq_true rfl, Nat.le_of_ble_eq_true rfl⟩) hK hN hP hD rfl rfl rfl hl.1 rfl (Nat.le_of_ble_eq_true rfl) dX10_findWays_181 ⟨Nat.le_of_ble_eq_true rfl, Nat.le_of_ble_eq_true rfl⟩ ?_
                      refine lv_goto (tgt := 188) hx hb dX10_findWays_184 (by decide) ?_
                      refine lv_iadd hx hb dX10_findWays_188 ?_
                      refine lv_istore (lv' := [(7, .int ((0 + (m0_68 ((256 : Int32) * (nI (j + 1)) + (nI (mk / 2 / 2 * 2 + 1))).toNatClampNeg)) + (m0_68 ((256 : Int32) * (nI (j + 1)) + (nI (mk / 2 + 128))).toNatClampNeg))), (6, .int (nI (mk / 2))), (0, .ref (a 0)), (1, .int (nI j)), (2, .int (bI v2_68)), (3, .int (bI v3_68)), (4, .int (bI v4_68)), (5, .int (nI mk))]) hx hb dX10_findWays_189 hl (by decide) rfl (fun ls hl => ?_)
                      exact lp191 ((0 + (m0_68 ((256 : Int32) * (nI (j + 1)) + (nI (mk / 2 / 2 * 2 + 1))).toNatClampNeg)) + (m0_68 ((256 : Int32) * (nI (j + 1)) + (nI (mk / 2 + 128))).toNatClampNeg)) m0_68 hw hlt_mk (leB_s3 hw.1 (by omega) hlt_mk (mk1_t ⟨mk, hlt_mk⟩ c_2) (mk2_t ⟨mk, hlt_mk⟩ c_6) (ha c_4) (hbb c_8))  _ _ hP hD hS ls (lv_sub hl [2, 3, 4, 5, 6, 7, 0] rfl)
              · replace c_3 := bI_f c_3
                refine lv_aload_n hx hb dX10_findWays_119 rfl (lv_at hl 2 rfl) ?_
                refine lv_iload_n hx hb dX10_findWays_120 rfl (lv_at hl 3 rfl) ?_
                refine lv_iconst (v := 1) hx hb dX10_findWays_121 (by decide) ?_
                refine lv_iadd hx hb dX10_findWays_122 ?_
                refine wtop_i (y := nI (j + 1)) (nI_1 _) ?_
                refine lv_iload hx hb dX10_findWays_123 (lv_at hl 1 rfl) ?_
                refine kR_i (As := [.int (nI (j + 1)), .int (nI (mk / 2))]) (rest := []) (q0 := 0) ⟨hx, hb, hml, hown, hts⟩ (c_X10_waysAt l D cy a _ J I (va_up R 12 m0_68) RJ (nI (j + 1)) (nI (mk / 2)) (ix_w (by omega) (by omega))) (cwV 2 hts gX10_findWays_X10_waysAt rfl rfl rfl (by decide +kernel) ⟨Nat.le_of_ble_eq_true rfl, Nat.le_of_ble_eq_true rfl⟩) hK hN hP hD rfl rfl rfl hl.1 rfl (Nat.le_of_ble_eq_true rfl) dX10_findWays_125 ⟨Nat.le_of_ble_eq_true rfl, Nat.le_of_ble_eq_true rfl⟩ ?_
                refine lv_istore (lv' := [(7, .int (m0_68 ((256 : Int32) * (nI (j + 1)) + (nI (mk / 2))).toNatClampNeg)), (6, .int (nI (mk / 2))), (0, .ref (a 0)), (1, .int (nI j)), (2, .int (bI v2_68)), (3, .int (bI v3_68)), (4, .int (bI v4_68)), (5, .int (nI mk))]) hx hb dX10_findWays_128 hl (by decide) rfl (fun ls hl => ?_)
                refine lv_goto (tgt := 191) hx hb dX10_findWays_130 (by decide) ?_
                exact lp191 (m0_68 ((256 : Int32) * (nI (j + 1)) + (nI (mk / 2))).toNatClampNeg) m0_68 hw hlt_mk (leB_a hw.1 (by omega) hlt_mk)  _ _ hP hD hS ls (lv_sub hl [2, 3, 4, 5, 6, 7, 0] rfl)
            · refine lv_iload_n hx hb dX10_findWays_93 rfl (lv_at hl 4 rfl) ?_
              refine lv_if_eq (tgt := 109) hx hb dX10_findWays_94 (by decide) (fun c_9 => ?_) (fun c_9 => ?_)
              · replace c_9 := bI_f c_9
                refine lv_iconst (v := 0) hx hb dX10_findWays_109 (by decide) ?_
                refine lv_istore (lv' := [(7, .int 0), (6, .int (nI (mk / 2))), (0, .ref (a 0)), (1, .int (nI j)), (2, .int (bI v2_68)), (3, .int (bI v3_68)), (4, .int (bI v4_68)), (5, .int (nI mk))]) hx hb dX10_findWays_110 hl (by decide) rfl (fun ls hl => ?_)
                refine lv_goto (tgt := 191) hx hb dX10_findWays_112 (by decide) ?_
                exact lp191 (0 : Int32) m0_68 hw hlt_mk leB_0  _ _ hP hD hS ls (lv_sub hl [2, 3, 4, 5, 6, 7, 0] rfl)
              · replace c_9 := bI_t c_9
                refine lv_aload_n hx hb dX10_findWays_97 rfl (lv_at hl 2 rfl) ?_
                refine lv_iload_n hx hb dX10_findWays_98 rfl (lv_at hl 3 rfl) ?_
                refine lv_iconst (v := 1) hx hb dX10_findWays_99 (by decide) ?_
                refine lv_iadd hx hb dX10_findWays_100 ?_
                refine wtop_i (y := nI (j + 1)) (nI_1 _) ?_
                refine lv_iload hx hb dX10_findWays_101 (lv_at hl 1 rfl) ?_
                refine kR_i (As := [.int (nI (j + 1)), .int (nI (mk / 2))]) (rest := []) (q0 := 0) ⟨hx, hb, hml, hown, hts⟩ (c_X10_waysAt l D cy a _ J I (va_up R 12 m0_68) RJ (nI (j + 1)) (nI (mk / 2)) (ix_w (by omega) (by omega))) (cwV 2 hts gX10_findWays_X10_waysAt rfl rfl rfl (by decide +kernel) ⟨Nat.le_of_ble_eq_true rfl, Nat.le_of_ble_eq_true rfl⟩) hK hN hP hD rfl rfl rfl hl.1 rfl (Nat.le_of_ble_eq_true rfl) dX10_findWays_103 ⟨Nat.le_of_ble_eq_true rfl, Nat.le_of_ble_eq_true rfl⟩ ?_
                refine lv_goto (tgt := 110) hx hb dX10_findWays_106 (by decide) ?_
                refine lv_istore (lv' := [(7, .int (m0_68 ((256 : Int32) * (nI (j + 1)) + (nI (mk / 2))).toNatClampNeg)), (6, .int (nI (mk / 2))), (0, .ref (a 0)), (1, .int (nI j)), (2, .int (bI v2_68)), (3, .int (bI v3_68)), (4, .int (bI v4_68)), (5, .int (nI mk))]) hx hb dX10_findWays_110 hl (by decide) rfl (fun ls hl => ?_)
                refine lv_goto (tgt := 191) hx hb dX10_findWays_112 (by decide) ?_
                exact lp191 (m0_68 ((256 : Int32) * (nI (j + 1)) + (nI (mk / 2))).toNatClampNeg) m0_68 hw hlt_mk (leB_a hw.1 (by omega) hlt_mk)  _ _ hP hD hS ls (lv_sub hl [2, 3, 4, 5, 6, 7, 0] rfl)
      refine lv_iload_n hx hb dX10_findWays_37 rfl (lv_at hl 1 rfl) ?_
      refine lv_if_lt (tgt := 218) hx hb dX10_findWays_38 (by decide) (fun c_10 => ?_) (fun c_10 => ?_)
      · have hie := fw_ge hi c_10
        exact wret_v hx hb hr hlocks (J, I, (va_up R 12 m0_37), RJ) ⟨m0_37, (by rw [hie] at hw; exact hw), rfl⟩ hP hD hS dX10_findWays_218
      · obtain ⟨j, hj, he⟩ := fw_lt hi c_10
        rw [he] at hl
        refine lv_aload_n hx hb dX10_findWays_41 rfl (lv_at hl 0 rfl) ?_
        refine va_get (D := D) (ci := 9) (v := .long (J 0)) (C := RX10) (T := TX10) (N := 30) hx hb hts hi10 hown hK hP 0 rfl rfl 0 (by decide) hw1 (fun _ h9 => h9) rfl dX10_findWays_42 ?_
        refine lv_iload_n hx hb dX10_findWays_45 rfl (lv_at hl 1 rfl) ?_
        refine kS_i (As := [.long (J 0), .int (nI j)]) (rest := []) ⟨hx, hb, hml, hown, hts⟩ (c_X10_hasBit l (J 0) (nI j)) (va_cwS 2 hts gX10_findWays_X10_hasBit rfl rfl rfl (by decide +kernel) ⟨Nat.le_of_ble_eq_true rfl, Nat.le_of_ble_eq_true rfl⟩) rfl hl.1 rfl (Nat.le_of_ble_eq_true rfl) dX10_findWays_46 ⟨Nat.le_of_ble_eq_true rfl, Nat.le_of_ble_eq_true rfl⟩ ?_
        refine lv_istore_n (lv' := [(2, .int (bI (m_hasBit (J 0) (nI j)))), (0, .ref (a 0)), (1, .int (nI j))]) hx hb dX10_findWays_49 rfl hl (by decide) rfl (fun ls hl => ?_)
        refine lv_aload_n hx hb dX10_findWays_50 rfl (lv_at hl 1 rfl) ?_
        refine lv_iload_n hx hb dX10_findWays_51 rfl (lv_at hl 2 rfl) ?_
        refine lv_iconst (v := 0) hx hb dX10_findWays_52 (by decide) ?_
        refine kR_i (As := [.int (nI j), .int 0]) (rest := []) (q0 := 0) ⟨hx, hb, hml, hown, hts⟩ (c_X10_mayLie l D cy a _ J I (va_up R 12 m0_37) RJ (nI j) false ) (cwV 2 hts gX10_findWays_X10_mayLie rfl rfl rfl (by decide +kernel) ⟨Nat.le_of_ble_eq_true rfl, Nat.le_of_ble_eq_true rfl⟩) hK hN hP hD rfl rfl rfl hl.1 rfl (Nat.le_of_ble_eq_true rfl) dX10_findWays_53 ⟨Nat.le_of_ble_eq_true rfl, Nat.le_of_ble_eq_true rfl⟩ ?_
        refine lv_istore_n (lv' := [(3, .int (bI (m_may (J 0) (J 21) (J 19) (J 20) (nI j) false))), (2, .int (bI (m_hasBit (J 0) (nI j)))), (0, .ref (a 0)), (1, .int (nI j))]) hx hb dX10_findWays_56 rfl hl (by decide) rfl (fun ls hl => ?_)
        refine lv_aload_n hx hb dX10_findWays_57 rfl (lv_at hl 2 rfl) ?_
        refine lv_iload_n hx hb dX10_findWays_58 rfl (lv_at hl 3 rfl) ?_
        refine lv_iconst (v := 1) hx hb dX10_findWays_59 (by decide) ?_
        refine kR_i (As := [.int (nI j), .int 1]) (rest := []) (q0 := 0) ⟨hx, hb, hml, hown, hts⟩ (c_X10_mayLie l D cy a _ J I (va_up R 12 m0_37) RJ (nI j) true ) (cwV 2 hts gX10_findWays_X10_mayLie rfl rfl rfl (by decide +kernel) ⟨Nat.le_of_ble_eq_true rfl, Nat.le_of_ble_eq_true rfl⟩) hK hN hP hD rfl rfl rfl hl.1 rfl (Nat.le_of_ble_eq_true rfl) dX10_findWays_60 ⟨Nat.le_of_ble_eq_true rfl, Nat.le_of_ble_eq_true rfl⟩ ?_
        refine lv_istore (lv' := [(4, .int (bI (m_may (J 0) (J 21) (J 19) (J 20) (nI j) true))), (3, .int (bI (m_may (J 0) (J 21) (J 19) (J 20) (nI j) false))), (2, .int (bI (m_hasBit (J 0) (nI j)))), (0, .ref (a 0)), (1, .int (nI j))]) hx hb dX10_findWays_63 hl (by decide) rfl (fun ls hl => ?_)
        refine lv_iconst (v := 0) hx hb dX10_findWays_65 (by decide) ?_
        refine lv_istore (lv' := [(5, .int 0), (4, .int (bI (m_may (J 0) (J 21) (J 19) (J 20) (nI j) true))), (3, .int (bI (m_may (J 0) (J 21) (J 19) (J 20) (nI j) false))), (2, .int (bI (m_hasBit (J 0) (nI j)))), (0, .ref (a 0)), (1, .int (nI j))]) hx hb dX10_findWays_66 hl (by decide) rfl (fun ls hl => ?_)
        exact lp68 _ 0 j (m_hasBit (J 0) (nI j)) (m_may (J 0) (J 21) (J 19) (J 20) (nI j) false) (m_may (J 0) (J 21) (J 19) (J 20) (nI j) true) m0_37 (Nat.zero_le _) hj (may_a (by omega)) (may_b (by omega)) (wB_j hw hj) (Nat.lt_succ_self _) _ _ hP hD hS ls (lv_sub hl [4, 5, 3, 2, 1, 0] rfl)
  have lp2 : ∀ (n2 : Nat), ∀ (i : Nat) (m0_2 : Nat → Int32), (i ≤ 256) → (∀ m, m < i → leB (m0_2 (16384 + m)) 64 m) → (256 - i) < n2 → ∀ (H : Heap) (locs : List Loc), va_P D vwCl (MW cy a J I (va_up R 12 m0_2) RJ) H → va_D A (MW cy a J I (va_up R 12 m0_2) RJ) → va_S A s.heap H locs → ∀ (ls : Array Slot), lv_has ls 8 [(0, .ref (a 0)), (1, .int (nI i))] → W p l e (headSpec wsX10_findWays ({ frames := 2, cells := 0, slots := 0, locals := 46 })).room s m ([.ref (a 0)] : List Value).toArray below meth c H locs 0 0 (MQ below (va_Qv (fun (u : MS) => ∃ (w0 : Nat → Int32), ((wB w0 (64 - 64))) ∧ u = (J, I, (va_up R 12 w0), RJ)) (BW D A (MWu cy a)) A) ([.ref (a 0)] : List Value).toArray s 0 0 A) (F0 m 2 ls []) := by
    intro n2
    induction n2 with
    | zero => intro i m0_2 hi hw hn; exact absurd hn (Nat.not_lt_zero _)
    | succ n2 ih2 =>
      intro i m0_2 hi hw hn2 H locs hP hD hS ls hl
      refine lv_iload_n hx hb dX10_findWays_2 rfl (lv_at hl 1 rfl) ?_
      refine lv_sipush (v := 256) hx hb dX10_findWays_3 (by decide) ?_
      refine lv_icmp_ge (tgt := 34) hx hb dX10_findWays_6 (by decide) (fun c_11 => ?_) (fun c_11 => ?_)
      · have hie := ctr_ge (N := 256) (by decide) hi c_11
        refine lv_bipush (v := 63) hx hb dX10_findWays_34 (by decide) ?_
        refine wtop_i (y := nI (64 - 0) - 1) (by decide) ?_
        refine lv_istore_n (lv' := [(1, .int (nI (64 - 0) - 1)), (0, .ref (a 0))]) hx hb dX10_findWays_36 rfl hl (by decide) rfl (fun ls hl => ?_)
        exact lp37 _ 0 m0_2 (by omega) (wB_of hw hie) (Nat.lt_succ_self _) _ _ hP hD hS ls (lv_sub hl [1, 0] rfl)
      · have hlt_i := ctr_lt (N := 256) (by decide) hi c_11
        refine lv_aload_n hx hb dX10_findWays_9 rfl (lv_at hl 0 rfl) ?_
        refine va_get (D := D) (ci := 9) (v := .ref (a 12)) (C := RX10) (T := TX10) (N := 30) hx hb hts hi10 hown hK hP 0 rfl rfl 18 (by decide) hw0 (fun _ h9 => h9) rfl dX10_findWays_10 ?_
        refine lv_sipush (v := 16384) hx hb dX10_findWays_13 (by decide) ?_
        refine lv_iload_n hx hb dX10_findWays_16 rfl (lv_at hl 1 rfl) ?_
        refine lv_iadd hx hb dX10_findWays_17 ?_
        refine lv_iload_n hx hb dX10_findWays_18 rfl (lv_at hl 1 rfl) ?_
        refine lv_if_ne (tgt := 26) hx hb dX10_findWays_19 (by decide) (fun c_12 => ?_) (fun c_12 => ?_)
        · refine lv_iconst (v := 0) hx hb dX10_findWays_26 (by decide) ?_
          refine va_iast hx hb hK hP hD hS 12 0 rfl rfl (ix16384 hlt_i) dX10_findWays_27 (fun H locs hP hD hS => ?_)
          have hP : va_P D vwCl (MW cy a J I (va_up R 12 (upd m0_2 (16384 + (nI i)).toNatClampNeg 0)) RJ) H := hP
          have hD : va_D A (MW cy a J I (va_up R 12 (upd m0_2 (16384 + (nI i)).toNatClampNeg 0)) RJ) := hD
          refine lv_iinc (v := nI (i + 1)) (lv' := [(1, .int (nI (i + 1))), (0, .ref (a 0))]) hx hb dX10_findWays_28 hl (k := 1) rfl (nI_1 _) (by decide) rfl (fun ls hl => ?_)
          refine lv_goto (tgt := 2) hx hb dX10_findWays_31 (by decide) ?_
          exact ih2 (i + 1) (upd m0_2 (16384 + (nI i)).toNatClampNeg 0) (by omega) (wt_upd hw hlt_i leB_0) (by omega) _ _ hP hD hS ls (lv_sub hl [1, 0] rfl)
        · refine lv_iconst (v := 1) hx hb dX10_findWays_22 (by decide) ?_
          refine lv_goto (tgt := 27) hx hb dX10_findWays_23 (by decide) ?_
          refine va_iast hx hb hK hP hD hS 12 0 rfl rfl (ix16384 hlt_i) dX10_findWays_27 (fun H locs hP hD hS => ?_)
          have hP : va_P D vwCl (MW cy a J I (va_up R 12 (upd m0_2 (16384 + (nI i)).toNatClampNeg 1)) RJ) H := hP
          have hD : va_D A (MW cy a J I (va_up R 12 (upd m0_2 (16384 + (nI i)).toNatClampNeg 1)) RJ) := hD
          refine lv_iinc (v := nI (i + 1)) (lv' := [(1, .int (nI (i + 1))), (0, .ref (a 0))]) hx hb dX10_findWays_28 hl (k := 1) rfl (nI_1 _) (by decide) rfl (fun ls hl => ?_)
          refine lv_goto (tgt := 2) hx hb dX10_findWays_31 (by decide) ?_
          exact ih2 (i + 1) (upd m0_2 (16384 + (nI i)).toNatClampNeg 1) (by omega) (wt_upd hw hlt_i ⟨1, wt_1 ⟨i, hlt_i⟩, rfl⟩) (by omega) _ _ hP hD hS ls (lv_sub hl [1, 0] rfl)
  refine lv_iconst (v := 0) hx hb dX10_findWays_0 (by decide) ?_
  refine lv_istore_n (lv' := [(1, .int 0), (0, .ref (a 0))]) hx hb dX10_findWays_1 rfl hl (by decide) rfl (fun ls hl => ?_)
  exact lp2 _ 0 (R 12) (by omega) (fun m h => absurd h (Nat.not_lt_zero _)) (Nat.lt_succ_self _) _ _ hP hD hS ls (lv_sub hl [1, 0] rfl)
