def bM (mk i : Nat) : Bool := decide (mk / 2 ^ i % 2 = 1)
theorem bM_t : ∀ mk : Fin 256, ∀ i : Fin 7, bM mk.val (i.val + 1) = true → bM (mk.val / 2) i.val = true ∧ bM (mk.val / 2 / 2 * 2 + 1) i.val = true ∧ bM (mk.val / 2 + 128) i.val = true := by decide +kernel
theorem bM_1 : ∀ mk : Fin 256, bM (mk.val / 2 / 2 * 2 + 1) 0 = true ∧ bM (mk.val / 2 + 128) 7 = true := by decide +kernel
def cov (A B : Nat → Bool) (h : Nat) : Bool := pl A h || pu B h
def WI (A B : Nat → Bool) (f mk : Nat) : Prop := (∀ h, f ≤ h → A h = false ∧ B h = false) ∧ DJ A B ∧ ∀ h, f ≤ h → h < 64 → cov A B h = true → h - f < 8 ∧ bM mk (h - f) = true
theorem WI_0 : WI (bf 0) (bf 0) 0 0 := by
  have z : ∀ k, bf 0 k = false := fun k => by
    unfold bf
    rw [show uN 0 = 0 from rfl, Nat.zero_testBit]
  refine ⟨fun h _ => ⟨z h, z h⟩, fun h _ => ?_, fun h _ _ q => ?_⟩
  · unfold pl pu
    rw [z, z, z, Bool.and_false, Bool.and_false]
    rfl
  · unfold cov pl pu at q
    rw [z, z, Bool.and_false, Bool.and_false] at q
    exact absurd q (by decide)
theorem WI_m {f mk h : Nat} (hm : mk < 256) (hh : f + 1 ≤ h) (q : h - f < 8 ∧ bM mk (h - f) = true) : h - (f + 1) < 7 ∧ bM mk (h - (f + 1) + 1) = true := by
  refine ⟨by omega, ?_⟩
  rw [show h - (f + 1) + 1 = h - f by omega]
  exact q.2
theorem WI_n {A B : Nat → Bool} {f mk : Nat} (hm : mk < 256) (h : WI A B f mk) : WI A B (f + 1) (mk / 2) := by
  refine ⟨fun k hk => h.1 k (by omega), h.2.1, fun k hk h64 hc => ?_⟩
  obtain ⟨q1, q2⟩ := WI_m hm hk (h.2.2 k (by omega) h64 hc)
  exact ⟨by omega, (bM_t ⟨mk, hm⟩ ⟨k - (f + 1), q1⟩ q2).1⟩
theorem sB_s {A : Nat → Bool} {f : Nat} : sB A f f = true := by
  unfold sB
  rw [decide_eq_true rfl, Bool.true_or]
theorem sB_n {A : Nat → Bool} {f k : Nat} (h : f ≠ k) : sB A f k = A k := by
  unfold sB
  rw [decide_eq_false h, Bool.false_or]
theorem plB_n {A : Nat → Bool} {f h : Nat} (h1 : 0 < h % 8 → f ≠ h - 1) : pl (sB A f) h = pl A h := by
  unfold pl
  by_cases z : 0 < h % 8
  · rw [sB_n (h1 z)]
  · rw [decide_eq_false z, Bool.false_and, Bool.false_and]
theorem puB_n {A : Nat → Bool} {f h : Nat} (h1 : 8 ≤ h → f ≠ h - 8) : pu (sB A f) h = pu A h := by
  unfold pu
  by_cases z : 8 ≤ h
  · rw [sB_n (h1 z)]
  · rw [decide_eq_false z, Bool.false_and, Bool.false_and]
theorem bM_0 {mk : Nat} (h : mk % 2 = 0) : ¬ bM mk 0 = true := by
  unfold bM
  rw [Nat.pow_zero, Nat.div_one, h]
  decide
theorem bM_one {mk : Nat} (h : mk / 2 % 2 = 0) : ¬ bM mk 1 = true := by
  unfold bM
  rw [Nat.pow_one, h]
  decide
theorem cov_f {A B : Nat → Bool} {f mk h i : Nat} (hw : WI A B f mk) (hh : h < 64) (e : h = f + i) (hn : ¬ (i < 8 ∧ bM mk i = true)) : pl A h = false ∧ pu B h = false := by
  have k : cov A B h = false := by
    cases hc : cov A B h with
    | false => rfl
    | true =>
      have q := hw.2.2 h (by omega) hh hc
      rw [show h - f = i by omega] at q
      exact absurd q hn
  unfold cov at k
  rw [Bool.or_eq_false_iff] at k
  exact k
theorem WI_a {A B : Nat → Bool} {f mk : Nat} (hf : f < 64) (hm : mk < 256) (h1 : mk % 2 = 0) (h2 : mk / 2 % 2 = 0) (hw : WI A B f mk) : WI (sB A f) B (f + 1) (mk / 2 / 2 * 2 + 1) := by
  refine ⟨fun k hk => ⟨by rw [sB_n (by omega)]; exact (hw.1 k (by omega)).1, (hw.1 k (by omega)).2⟩, fun h hh => ?_, fun k hk h64 hc => ?_⟩
  · by_cases q0 : h = f
    · subst q0
      obtain ⟨c1, c2⟩ := cov_f (i := 0) hw hh rfl (fun z => bM_0 h1 z.2)
      rw [sB_s, plB_n (by omega), c1, c2, (hw.1 h (Nat.le_refl _)).2]
      rfl
    · by_cases q1 : h = f + 1
      · subst q1
        obtain ⟨c1, c2⟩ := cov_f (i := 1) hw hh rfl (fun z => bM_one h2 z.2)
        rw [sB_n (by omega), (hw.1 (f + 1) (by omega)).1, (hw.1 (f + 1) (by omega)).2, c2]
        cases pl (sB A f) (f + 1) <;> rfl
      · rw [sB_n (fun z => q0 z.symm), plB_n (by omega)]
        exact hw.2.1 h hh
  · by_cases q1 : k = f + 1
    · subst q1
      rw [Nat.sub_self]
      exact ⟨by decide, (bM_1 ⟨mk, hm⟩).1⟩
    · have hc2 : cov A B k = true := by
        unfold cov at hc ⊢
        rw [plB_n (by omega)] at hc
        exact hc
      obtain ⟨z1, z2⟩ := WI_m hm hk (hw.2.2 k (by omega) h64 hc2)
      exact ⟨by omega, (bM_t ⟨mk, hm⟩ ⟨k - (f + 1), z1⟩ z2).2.1⟩
theorem WI_c {A B : Nat → Bool} {f mk : Nat} (hf : f < 64) (hm : mk < 256) (h1 : mk % 2 = 0) (hw : WI A B f mk) : WI A (sB B f) (f + 1) (mk / 2 + 128) := by
  refine ⟨fun k hk => ⟨(hw.1 k (by omega)).1, by rw [sB_n (by omega)]; exact (hw.1 k (by omega)).2⟩, fun h hh => ?_, fun k hk h64 hc => ?_⟩
  · by_cases q0 : h = f
    · subst q0
      obtain ⟨c1, c2⟩ := cov_f (i := 0) hw hh rfl (fun z => bM_0 h1 z.2)
      rw [sB_s, puB_n (by omega), c1, c2, (hw.1 h (Nat.le_refl _)).1]
      rfl
    · by_cases q1 : h = f + 8
      · subst q1
        obtain ⟨c1, c2⟩ := cov_f (i := 8) hw hh rfl (fun z => absurd z.1 (by decide))
        rw [sB_n (by omega), (hw.1 (f + 8) (by omega)).1, (hw.1 (f + 8) (by omega)).2, c1]
        cases pu (sB B f) (f + 8) <;> rfl
      · rw [sB_n (fun z => q0 z.symm), puB_n (by omega)]
        exact hw.2.1 h hh
  · by_cases q1 : k = f + 8
    · subst q1
      rw [show f + 8 - (f + 1) = 7 by omega]
      exact ⟨by decide, (bM_1 ⟨mk, hm⟩).2⟩
    · have hc2 : cov A B k = true := by
        unfold cov at hc ⊢
        rw [puB_n (by omega)] at hc
        exact hc
      obtain ⟨z1, z2⟩ := WI_m hm hk (hw.2.2 k (by omega) h64 hc2)
      exact ⟨by omega, (bM_t ⟨mk, hm⟩ ⟨k - (f + 1), z1⟩ z2).2.2⟩
theorem WI_A {x y : Int64} {f mk : Nat} (hf : f < 64) (hm : mk < 256) (h1 : mk % 2 = 0) (h2 : mk / 2 % 2 = 0) (hw : WI (bf x) (bf y) f mk) : WI (bf (x ||| (1 : Int64) <<< ((nI f).toInt64 &&& 63))) (bf (y ||| 0)) (f + 1) (mk / 2 / 2 * 2 + 1) := by
  rw [bf_or1 x hf, bf_or0]
  exact WI_a hf hm h1 h2 hw
theorem WI_C {x y : Int64} {f mk : Nat} (hf : f < 64) (hm : mk < 256) (h1 : mk % 2 = 0) (hw : WI (bf x) (bf y) f mk) : WI (bf (x ||| 0)) (bf (y ||| (1 : Int64) <<< ((nI f).toInt64 &&& 63))) (f + 1) (mk / 2 + 128) := by
  rw [bf_or1 y hf, bf_or0]
  exact WI_c hf hm h1 hw
theorem mk1_z : ∀ m : Fin 256, nI m.val &&& 1 = 0 → m.val % 2 = 0 := by decide +kernel
theorem gT_all : ∀ j : Fin 16, ∀ m : Fin 256, gT j.val / 2 ^ (32 * m.val) % 4294967296 ≤ 250 := by decide +kernel
theorem lT_all : ∀ j : Fin 17, ∀ m : Fin 256, lT j.val / 2 ^ (32 * m.val) % 4294967296 ≤ 250 := by decide +kernel
theorem gK_le (n : Nat) : gK n ≤ 2125000 := by
  unfold gK
  split <;> decide
theorem gB_le {f : Nat} (hf : f < 65) {m : Nat} (hm : m < 256) : gB f m ≤ 531250000 := by
  unfold gB
  split
  · exact Nat.le_trans (Nat.mul_le_mul (gT_all ⟨f % 16, Nat.mod_lt _ (by decide)⟩ ⟨m, hm⟩) (gK_le _)) (by decide)
  · exact Nat.le_trans (lT_all ⟨f - 48, by omega⟩ ⟨m, hm⟩) (by decide)
theorem leB_nn {x : Int32} {f m : Nat} (hf : f < 65) (hm : m < 256) (h : leB x f m) : 0 ≤ x := by
  obtain ⟨n, hn, rfl⟩ := h
  have := gB_le hf hm
  exact (nI_leI (a := 0) (b := n) (by decide) (Nat.lt_of_le_of_lt (Nat.le_trans hn this) (by decide))).mpr (Nat.zero_le _)
theorem wB_nn {w : Nat → Int32} {i mk : Nat} (H : wB w (64 - 64)) (hi : i < 64) (hm : mk < 256) : 0 ≤ w ((256 : Int32) * nI (i + 1) + nI mk).toNatClampNeg := by
  rw [wix, nI_clamp (wx_lt (Nat.succ_lt_succ hi) hm)]
  exact leB_nn (Nat.succ_lt_succ hi) hm (H (i + 1) mk (Nat.zero_le _) (Nat.succ_lt_succ hi) hm)
theorem mk_or1 {mk : Nat} (h : mk < 256) : mk / 2 / 2 * 2 + 1 < 256 := by omega
theorem sub_nn {x y : Int32} (h1 : 0 ≤ y) (h2 : y ≤ x) : 0 ≤ x - y := by
  have e0 : (0 : Int32).toInt = 0 := rfl
  have r := i32_rng x
  have r2 := i32_rng y
  rw [Int32.le_iff_toInt_le] at *
  rw [Int32.toInt_sub, Int.bmod_eq_of_le (by omega) (by omega)]
  omega
theorem sub_z {x : Int32} (h : 0 ≤ x) : 0 ≤ x - 0 := by rw [Int32.sub_zero]; exact h
set_option maxHeartbeats 4000000 in
set_option maxRecDepth 100000 in
theorem t_X10_walkD (l : Launch) (D : va_G) (cy : Nat → ClassId) (a : Nat → Nat) (sz : Nat) (J : Nat → Int64) (I : Nat → Int32) (R : Nat → Nat → Int32) (RJ : Nat → Nat → Int64) (x0 : Int32) (hx0 : 0 ≤ x0) (hwbb : wB (R 12) (64 - 64)) : Met l yX10_walk wsX10_walk ({ frames := 2, cells := 0, slots := 0, locals := 46 }) (va_Pc [.ref (a 0), .int x0] (PW D cy sz (MW cy a J I R RJ))) (va_Qv (fun (u : MS) => ∃ (w0 : Int64), ∃ (w1 : Int64), ((DJ (bf w0) (bf w1))) ∧ u = ((va_up (va_up J 22 w0) 23 w1), I, R, RJ)) (BW D (va_A (MW cy a J I R RJ) sz) (MWu cy a)) (va_A (MW cy a J I R RJ) sz)) 0 0 (va_A (MW cy a J I R RJ) sz) := by
  refine Met.ofW (cc := cX10_walk) (maxL := 8) (ret := none) (by decide) rfl ?_
  intro p e s m args below meth c s₁ B hml hv
  obtain ⟨rfl, rfl, hP, hK, hN, hD0⟩ := hv
  have hx := B.exec
  have hb := B.bytes
  have hr := B.returns
  have hts := atoms_spec (ws := wsX10_walk) B.pre
  have hown : s.vm.findClass RX10 = some m.cls := findClass_of_methodNamed B.named
  have hlocks := B.notSynchronized
  have hw0 := hts (.fieldLink RX10 81 "ParquetLayerModel" "floor" "J") (by decide +kernel)
  have hw1 := hts (.fieldLink RX10 210 "ParquetLayerModel" "walkAlong" "J") (by decide +kernel)
  have hw2 := hts (.fieldLink RX10 213 "ParquetLayerModel" "walkAcross" "J") (by decide +kernel)
  have hi10 := ihX10_walk_10
  have hD := hD0.self (sz := s.heap.size)
  generalize hAe : va_A (MW cy a J I R RJ) s.heap.size = A at hD ⊢
  have hA : ∀ q : Nat, s.heap.size ≤ q → A q := fun q h => by rw [← hAe]; exact Or.inr h
  have hS : va_S A s.heap s.heap [] := va_S.rf
  have hl := lv_entry ([.ref (a 0), .int x0]) (n := 8) (Nat.le_of_ble_eq_true rfl)
  rw [lg_entry_eq]
  generalize (lg_sl ([.ref (a 0), .int x0]) ++ List.replicate (8 - (lg_sl ([.ref (a 0), .int x0])).length) Slot.unset).toArray = ls at hl ⊢
  have hl : lv_has ls 8 [(0, .ref (a 0)), (1, .int x0)] := hl
  have hP : va_P D vwCl (MW cy a (va_up (va_up J 22 (J 22)) 23 (J 23)) I R RJ) s.heap := hP
  have hD : va_D A (MW cy a (va_up (va_up J 22 (J 22)) 23 (J 23)) I R RJ) := hD
  have lp17 : ∀ (n17 : Nat), ∀ (i : Nat) (mk : Nat) (v2_17 : Int32) (m0_17 : Int64) (m1_17 : Int64), (i ≤ 64) → (mk < 256) → (0 ≤ v2_17) → (WI (bf m0_17) (bf m1_17) i mk) → (64 - i) < n17 → ∀ (H : Heap) (locs : List Loc), va_P D vwCl (MW cy a (va_up (va_up J 22 m0_17) 23 m1_17) I R RJ) H → va_D A (MW cy a (va_up (va_up J 22 m0_17) 23 m1_17) I R RJ) → va_S A s.heap H locs → ∀ (ls : Array Slot), lv_has ls 8 [(0, .ref (a 0)), (1, .int x0), (2, .int v2_17), (3, .int (nI mk)), (4, .int (nI i))] → W p l e (headSpec wsX10_walk ({ frames := 2, cells := 0, slots := 0, locals := 46 })).room s m ([.ref (a 0), .int x0] : List Value).toArray below meth c H locs 0 0 (MQ below (va_Qv (fun (u : MS) => ∃ (w0 : Int64), ∃ (w1 : Int64), ((DJ (bf w0) (bf w1))) ∧ u = ((va_up (va_up J 22 w0) 23 w1), I, R, RJ)) (BW D A (MWu cy a)) A) ([.ref (a 0), .int x0] : List Value).toArray s 0 0 A) (F0 m 17 ls []) := by
    intro n17
    induction n17 with
    | zero => intro i mk v2_17 m0_17 m1_17 hi hmk hl0 hwi hn; exact absurd hn (Nat.not_lt_zero _)
    | succ n17 ih17 =>
      intro i mk v2_17 m0_17 m1_17 hi hmk hl0 hwi hn17 H locs hP hD hS ls hl
      refine lv_iload hx hb dX10_walk_17 (lv_at hl 4 rfl) ?_
      refine lv_bipush (v := 64) hx hb dX10_walk_19 (by decide) ?_
      refine lv_icmp_ge (tgt := 178) hx hb dX10_walk_21 (by decide) (fun c_1 => ?_) (fun c_1 => ?_)
      · exact wret_v hx hb hr hlocks ((va_up (va_up J 22 m0_17) 23 m1_17), I, R, RJ) ⟨m0_17, m1_17, hwi.2.1, rfl⟩ hP hD hS dX10_walk_178
      · have hlt_i := ctr_lt (N := 64) (by decide) hi c_1
        refine lv_iload_n hx hb dX10_walk_24 rfl (lv_at hl 3 rfl) ?_
        refine lv_iconst (v := 1) hx hb dX10_walk_25 (by decide) ?_
        refine lv_ishr hx hb dX10_walk_26 ?_
        refine wtop_i (y := nI (mk / 2)) (pk_shrN (by omega) _ 1 (by decide)) ?_
        refine lv_istore (lv' := [(5, .int (nI (mk / 2))), (0, .ref (a 0)), (1, .int x0), (2, .int v2_17), (3, .int (nI mk)), (4, .int (nI i))]) hx hb dX10_walk_27 hl (by decide) rfl (fun ls hl => ?_)
        refine lv_aload_n hx hb dX10_walk_29 rfl (lv_at hl 1 rfl) ?_
        refine va_get (D := D) (ci := 9) (v := .long (J 0)) (C := RX10) (T := TX10) (N := 30) hx hb hts hi10 hown hK hP 0 rfl rfl 0 (by decide) hw0 (fun _ h9 => h9) rfl dX10_walk_30 ?_
        refine lv_iload hx hb dX10_walk_33 (lv_at hl 5 rfl) ?_
        refine kS_i (As := [.long (J 0), .int (nI i)]) (rest := []) ⟨hx, hb, hml, hown, hts⟩ (c_X10_hasBit l (J 0) (nI i)) (va_cwS 2 hts gX10_walk_X10_hasBit rfl rfl rfl (by decide +kernel) ⟨Nat.le_of_ble_eq_true rfl, Nat.le_of_ble_eq_true rfl⟩) rfl hl.1 rfl (Nat.le_of_ble_eq_true rfl) dX10_walk_35 ⟨Nat.le_of_ble_eq_true rfl, Nat.le_of_ble_eq_true rfl⟩ ?_
        refine lv_if_eq (tgt := 169) hx hb dX10_walk_38 (by decide) (fun c_2 => ?_) (fun c_2 => ?_)
        · replace c_2 := bI_f c_2
          refine lv_iload hx hb dX10_walk_169 (lv_at hl 0 rfl) ?_
          refine lv_istore_n (lv' := [(3, .int (nI (mk / 2))), (5, .int (nI (mk / 2))), (0, .ref (a 0)), (1, .int x0), (2, .int v2_17), (4, .int (nI i))]) hx hb dX10_walk_171 rfl hl (by decide) rfl (fun ls hl => ?_)
          refine lv_iinc (v := nI (i + 1)) (lv' := [(4, .int (nI (i + 1))), (3, .int (nI (mk / 2))), (5, .int (nI (mk / 2))), (0, .ref (a 0)), (1, .int x0), (2, .int v2_17)]) hx hb dX10_walk_172 hl (k := 5) rfl (nI_1 _) (by decide) rfl (fun ls hl => ?_)
          refine lv_goto (tgt := 17) hx hb dX10_walk_175 (by decide) ?_
          exact ih17 (i + 1) (mk / 2) v2_17 m0_17 m1_17 (by omega) (by omega) hl0 (WI_n hmk hwi) (by omega) _ _ hP hD hS ls (lv_sub hl [3, 4, 5, 1, 0] rfl)
        · replace c_2 := bI_t c_2
          refine lv_iload_n hx hb dX10_walk_41 rfl (lv_at hl 4 rfl) ?_
          refine lv_iconst (v := 1) hx hb dX10_walk_42 (by decide) ?_
          refine lv_iand hx hb dX10_walk_43 ?_
          refine lv_if_ne (tgt := 169) hx hb dX10_walk_44 (by decide) (fun c_3 => ?_) (fun c_3 => ?_)
          · refine lv_iload hx hb dX10_walk_169 (lv_at hl 0 rfl) ?_
            refine lv_istore_n (lv' := [(3, .int (nI (mk / 2))), (5, .int (nI (mk / 2))), (0, .ref (a 0)), (1, .int x0), (2, .int v2_17), (4, .int (nI i))]) hx hb dX10_walk_171 rfl hl (by decide) rfl (fun ls hl => ?_)
            refine lv_iinc (v := nI (i + 1)) (lv' := [(4, .int (nI (i + 1))), (3, .int (nI (mk / 2))), (5, .int (nI (mk / 2))), (0, .ref (a 0)), (1, .int x0), (2, .int v2_17)]) hx hb dX10_walk_172 hl (k := 5) rfl (nI_1 _) (by decide) rfl (fun ls hl => ?_)
            refine lv_goto (tgt := 17) hx hb dX10_walk_175 (by decide) ?_
            exact ih17 (i + 1) (mk / 2) v2_17 m0_17 m1_17 (by omega) (by omega) hl0 (WI_n hmk hwi) (by omega) _ _ hP hD hS ls (lv_sub hl [3, 4, 5, 1, 0] rfl)
          · refine lv_aload_n hx hb dX10_walk_47 rfl (lv_at hl 1 rfl) ?_
            refine lv_iload hx hb dX10_walk_48 (lv_at hl 5 rfl) ?_
            refine lv_iconst (v := 0) hx hb dX10_walk_50 (by decide) ?_
            refine kR_i (As := [.int (nI i), .int 0]) (rest := []) (q0 := 0) ⟨hx, hb, hml, hown, hts⟩ (c_X10_mayLie l D cy a _ (va_up (va_up J 22 m0_17) 23 m1_17) I R RJ (nI i) false ) (cwV 2 hts gX10_walk_X10_mayLie rfl rfl rfl (by decide +kernel) ⟨Nat.le_of_ble_eq_true rfl, Nat.le_of_ble_eq_true rfl⟩) hK hN hP hD rfl rfl rfl hl.1 rfl (Nat.le_of_ble_eq_true rfl) dX10_walk_51 ⟨Nat.le_of_ble_eq_true rfl, Nat.le_of_ble_eq_true rfl⟩ ?_
            refine lv_if_eq (tgt := 78) hx hb dX10_walk_54 (by decide) (fun c_4 => ?_) (fun c_4 => ?_)
            · replace c_4 := bI_f c_4
              refine lv_iconst (v := 0) hx hb dX10_walk_78 (by decide) ?_
              refine lv_istore (lv' := [(6, .int 0), (5, .int (nI (mk / 2))), (0, .ref (a 0)), (1, .int x0), (2, .int v2_17), (3, .int (nI mk)), (4, .int (nI i))]) hx hb dX10_walk_79 hl (by decide) rfl (fun ls hl => ?_)
              refine lv_iload_n hx hb dX10_walk_81 rfl (lv_at hl 4 rfl) ?_
              refine lv_iload hx hb dX10_walk_82 (lv_at hl 0 rfl) ?_
              refine lv_icmp_ge (tgt := 91) hx hb dX10_walk_84 (by decide) (fun c_5 => ?_) (fun c_5 => absurd hl0 c_5)
              refine lv_iconst (v := 0) hx hb dX10_walk_91 (by decide) ?_
              refine lv_istore (lv' := [(7, .int 0), (6, .int 0), (5, .int (nI (mk / 2))), (0, .ref (a 0)), (1, .int x0), (2, .int v2_17), (3, .int (nI mk)), (4, .int (nI i))]) hx hb dX10_walk_92 hl (by decide) rfl (fun ls hl => ?_)
              refine lv_iload_n hx hb dX10_walk_94 rfl (lv_at hl 5 rfl) ?_
              refine lv_iload hx hb dX10_walk_95 (lv_at hl 0 rfl) ?_
              refine lv_if_eq (tgt := 104) hx hb dX10_walk_97 (by decide) (fun c_6 => ?_) (fun c_6 => absurd (by decide) c_6)
              refine lv_iload hx hb dX10_walk_104 (lv_at hl 1 rfl) ?_
              refine lv_isub hx hb dX10_walk_106 ?_
              refine lv_istore_n (lv' := [(2, .int (v2_17 - 0)), (7, .int 0), (6, .int 0), (5, .int (nI (mk / 2))), (0, .ref (a 0)), (1, .int x0), (3, .int (nI mk)), (4, .int (nI i))]) hx hb dX10_walk_107 rfl hl (by decide) rfl (fun ls hl => ?_)
              refine lv_aload_n hx hb dX10_walk_108 rfl (lv_at hl 4 rfl) ?_
              refine lv_dup hx hb dX10_walk_109 rfl ?_
              refine va_get (D := D) (ci := 9) (v := .long m0_17) (C := RX10) (T := TX10) (N := 30) hx hb hts hi10 hown hK hP 0 rfl rfl 22 (by decide) hw1 (fun _ h9 => h9) rfl dX10_walk_110 ?_
              refine lv_iload hx hb dX10_walk_113 (lv_at hl 1 rfl) ?_
              refine lv_if_eq (tgt := 125) hx hb dX10_walk_115 (by decide) (fun c_7 => ?_) (fun c_7 => absurd (by decide) c_7)
              refine lv_lconst (v := 0) hx hb dX10_walk_125 (by decide) ?_
              refine lv_lor hx hb dX10_walk_126 ?_
              refine va_put (D := D) (ci := 9) (v := .long (m0_17 ||| 0)) (ty := .long) (C := RX10) (T := TX10) (N := 30) hx hb hts hi10 tyX10 tyX10_ok nmX10 hown hK hP hD hS 0 rfl rfl 22 (by decide) hw1 (fun _ h9 => h9) rfl (by decide +kernel) rfl rfl (Nat.le_of_ble_eq_true rfl) dX10_walk_127 (fun H locs hP hD hS => ?_)
              have hP : va_P D vwCl (MW cy a (va_up (va_up J 22 (m0_17 ||| 0)) 23 m1_17) I R RJ) H := hP
              have hD : va_D A (MW cy a (va_up (va_up J 22 (m0_17 ||| 0)) 23 m1_17) I R RJ) := hD
              refine lv_aload_n hx hb dX10_walk_130 rfl (lv_at hl 4 rfl) ?_
              refine lv_dup hx hb dX10_walk_131 rfl ?_
              refine va_get (D := D) (ci := 9) (v := .long m1_17) (C := RX10) (T := TX10) (N := 30) hx hb hts hi10 hown hK hP 0 rfl rfl 23 (by decide) hw2 (fun _ h9 => h9) rfl dX10_walk_132 ?_
              refine lv_iload hx hb dX10_walk_135 (lv_at hl 1 rfl) ?_
              refine lv_if_eq (tgt := 144) hx hb dX10_walk_137 (by decide) (fun c_8 => ?_) (fun c_8 => absurd (by decide) c_8)
              refine lv_lconst (v := 1) hx hb dX10_walk_144 (by decide) ?_
              refine lv_iload hx hb dX10_walk_145 (lv_at hl 7 rfl) ?_
              refine lv_lshl (v := (1 : Int64) <<< ((nI i : Int32).toInt64 &&& 63)) hx hb dX10_walk_147 rfl ?_
              refine lv_lor hx hb dX10_walk_148 ?_
              refine va_put (D := D) (ci := 9) (v := .long (m1_17 ||| ((1 : Int64) <<< ((nI i : Int32).toInt64 &&& 63)))) (ty := .long) (C := RX10) (T := TX10) (N := 30) hx hb hts hi10 tyX10 tyX10_ok nmX10 hown hK hP hD hS 0 rfl rfl 23 (by decide) hw2 (fun _ h9 => h9) rfl (by decide +kernel) rfl rfl (Nat.le_of_ble_eq_true rfl) dX10_walk_149 (fun H locs hP hD hS => ?_)
              have hP : va_P D vwCl (MW cy a (va_up (va_up J 22 (m0_17 ||| 0)) 23 (m1_17 ||| ((1 : Int64) <<< ((nI i : Int32).toInt64 &&& 63)))) I R RJ) H := hP
              have hD : va_D A (MW cy a (va_up (va_up J 22 (m0_17 ||| 0)) 23 (m1_17 ||| ((1 : Int64) <<< ((nI i : Int32).toInt64 &&& 63)))) I R RJ) := hD
              refine lv_iload hx hb dX10_walk_152 (lv_at hl 3 rfl) ?_
              refine lv_iload hx hb dX10_walk_154 (lv_at hl 1 rfl) ?_
              refine lv_if_eq (tgt := 163) hx hb dX10_walk_156 (by decide) (fun c_9 => ?_) (fun c_9 => absurd (by decide) c_9)
              refine lv_sipush (v := 128) hx hb dX10_walk_163 (by decide) ?_
              refine lv_ior hx hb dX10_walk_166 ?_
              refine wtop_i (y := nI (mk / 2 + 128)) (or128_t ⟨mk / 2, by omega⟩) ?_
              refine lv_istore (lv' := [(5, .int (nI (mk / 2 + 128))), (2, .int (v2_17 - 0)), (7, .int 0), (6, .int 0), (0, .ref (a 0)), (1, .int x0), (3, .int (nI mk)), (4, .int (nI i))]) hx hb dX10_walk_167 hl (by decide) rfl (fun ls hl => ?_)
              refine lv_iload hx hb dX10_walk_169 (lv_at hl 0 rfl) ?_
              refine lv_istore_n (lv' := [(3, .int (nI (mk / 2 + 128))), (5, .int (nI (mk / 2 + 128))), (2, .int (v2_17 - 0)), (7, .int 0), (6, .int 0), (0, .ref (a 0)), (1, .int x0), (4, .int (nI i))]) hx hb dX10_walk_171 rfl hl (by decide) rfl (fun ls hl => ?_)
              refine lv_iinc (v := nI (i + 1)) (lv' := [(4, .int (nI (i + 1))), (3, .int (nI (mk / 2 + 128))), (5, .int (nI (mk / 2 + 128))), (2, .int (v2_17 - 0)), (7, .int 0), (6, .int 0), (0, .ref (a 0)), (1, .int x0)]) hx hb dX10_walk_172 hl (k := 7) rfl (nI_1 _) (by decide) rfl (fun ls hl => ?_)
              refine lv_goto (tgt := 17) hx hb dX10_walk_175 (by decide) ?_
              exact ih17 (i + 1) (mk / 2 + 128) (v2_17 - 0) (m0_17 ||| 0) (m1_17 ||| ((1 : Int64) <<< ((nI i : Int32).toInt64 &&& 63))) (by omega) (by omega) (sub_z hl0) (WI_C hlt_i hmk (mk1_z ⟨mk, hmk⟩ c_3) hwi) (by omega) _ _ hP hD hS ls (lv_sub hl [6, 7, 3, 1, 0] rfl)
            · replace c_4 := bI_t c_4
              refine lv_iload_n hx hb dX10_walk_57 rfl (lv_at hl 4 rfl) ?_
              refine lv_iconst (v := 2) hx hb dX10_walk_58 (by decide) ?_
              refine lv_iand hx hb dX10_walk_59 ?_
              refine lv_if_ne (tgt := 78) hx hb dX10_walk_60 (by decide) (fun c_10 => ?_) (fun c_10 => ?_)
              · refine lv_iconst (v := 0) hx hb dX10_walk_78 (by decide) ?_
                refine lv_istore (lv' := [(6, .int 0), (5, .int (nI (mk / 2))), (0, .ref (a 0)), (1, .int x0), (2, .int v2_17), (3, .int (nI mk)), (4, .int (nI i))]) hx hb dX10_walk_79 hl (by decide) rfl (fun ls hl => ?_)
                refine lv_iload_n hx hb dX10_walk_81 rfl (lv_at hl 4 rfl) ?_
                refine lv_iload hx hb dX10_walk_82 (lv_at hl 0 rfl) ?_
                refine lv_icmp_ge (tgt := 91) hx hb dX10_walk_84 (by decide) (fun c_11 => ?_) (fun c_11 => absurd hl0 c_11)
                refine lv_iconst (v := 0) hx hb dX10_walk_91 (by decide) ?_
                refine lv_istore (lv' := [(7, .int 0), (6, .int 0), (5, .int (nI (mk / 2))), (0, .ref (a 0)), (1, .int x0), (2, .int v2_17), (3, .int (nI mk)), (4, .int (nI i))]) hx hb dX10_walk_92 hl (by decide) rfl (fun ls hl => ?_)
                refine lv_iload_n hx hb dX10_walk_94 rfl (lv_at hl 5 rfl) ?_
                refine lv_iload hx hb dX10_walk_95 (lv_at hl 0 rfl) ?_
                refine lv_if_eq (tgt := 104) hx hb dX10_walk_97 (by decide) (fun c_12 => ?_) (fun c_12 => absurd (by decide) c_12)
                refine lv_iload hx hb dX10_walk_104 (lv_at hl 1 rfl) ?_
                refine lv_isub hx hb dX10_walk_106 ?_
                refine lv_istore_n (lv' := [(2, .int (v2_17 - 0)), (7, .int 0), (6, .int 0), (5, .int (nI (mk / 2))), (0, .ref (a 0)), (1, .int x0), (3, .int (nI mk)), (4, .int (nI i))]) hx hb dX10_walk_107 rfl hl (by decide) rfl (fun ls hl => ?_)
                refine lv_aload_n hx hb dX10_walk_108 rfl (lv_at hl 4 rfl) ?_
                refine lv_dup hx hb dX10_walk_109 rfl ?_
                refine va_get (D := D) (ci := 9) (v := .long m0_17) (C := RX10) (T := TX10) (N := 30) hx hb hts hi10 hown hK hP 0 rfl rfl 22 (by decide) hw1 (fun _ h9 => h9) rfl dX10_walk_110 ?_
                refine lv_iload hx hb dX10_walk_113 (lv_at hl 1 rfl) ?_
                refine lv_if_eq (tgt := 125) hx hb dX10_walk_115 (by decide) (fun c_13 => ?_) (fun c_13 => absurd (by decide) c_13)
                refine lv_lconst (v := 0) hx hb dX10_walk_125 (by decide) ?_
                refine lv_lor hx hb dX10_walk_126 ?_
                refine va_put (D := D) (ci := 9) (v := .long (m0_17 ||| 0)) (ty := .long) (C := RX10) (T := TX10) (N := 30) hx hb hts hi10 tyX10 tyX10_ok nmX10 hown hK hP hD hS 0 rfl rfl 22 (by decide) hw1 (fun _ h9 => h9) rfl (by decide +kernel) rfl rfl (Nat.le_of_ble_eq_true rfl) dX10_walk_127 (fun H locs hP hD hS => ?_)
                have hP : va_P D vwCl (MW cy a (va_up (va_up J 22 (m0_17 ||| 0)) 23 m1_17) I R RJ) H := hP
                have hD : va_D A (MW cy a (va_up (va_up J 22 (m0_17 ||| 0)) 23 m1_17) I R RJ) := hD
                refine lv_aload_n hx hb dX10_walk_130 rfl (lv_at hl 4 rfl) ?_
                refine lv_dup hx hb dX10_walk_131 rfl ?_
                refine va_get (D := D) (ci := 9) (v := .long m1_17) (C := RX10) (T := TX10) (N := 30) hx hb hts hi10 hown hK hP 0 rfl rfl 23 (by decide) hw2 (fun _ h9 => h9) rfl dX10_walk_132 ?_
                refine lv_iload hx hb dX10_walk_135 (lv_at hl 1 rfl) ?_
                refine lv_if_eq (tgt := 144) hx hb dX10_walk_137 (by decide) (fun c_14 => ?_) (fun c_14 => absurd (by decide) c_14)
                refine lv_lconst (v := 1) hx hb dX10_walk_144 (by decide) ?_
                refine lv_iload hx hb dX10_walk_145 (lv_at hl 7 rfl) ?_
                refine lv_lshl (v := (1 : Int64) <<< ((nI i : Int32).toInt64 &&& 63)) hx hb dX10_walk_147 rfl ?_
                refine lv_lor hx hb dX10_walk_148 ?_
                refine va_put (D := D) (ci := 9) (v := .long (m1_17 ||| ((1 : Int64) <<< ((nI i : Int32).toInt64 &&& 63)))) (ty := .long) (C := RX10) (T := TX10) (N := 30) hx hb hts hi10 tyX10 tyX10_ok nmX10 hown hK hP hD hS 0 rfl rfl 23 (by decide) hw2 (fun _ h9 => h9) rfl (by decide +kernel) rfl rfl (Nat.le_of_ble_eq_true rfl) dX10_walk_149 (fun H locs hP hD hS => ?_)
                have hP : va_P D vwCl (MW cy a (va_up (va_up J 22 (m0_17 ||| 0)) 23 (m1_17 ||| ((1 : Int64) <<< ((nI i : Int32).toInt64 &&& 63)))) I R RJ) H := hP
                have hD : va_D A (MW cy a (va_up (va_up J 22 (m0_17 ||| 0)) 23 (m1_17 ||| ((1 : Int64) <<< ((nI i : Int32).toInt64 &&& 63)))) I R RJ) := hD
                refine lv_iload hx hb dX10_walk_152 (lv_at hl 3 rfl) ?_
                refine lv_iload hx hb dX10_walk_154 (lv_at hl 1 rfl) ?_
                refine lv_if_eq (tgt := 163) hx hb dX10_walk_156 (by decide) (fun c_15 => ?_) (fun c_15 => absurd (by decide) c_15)
                refine lv_sipush (v := 128) hx hb dX10_walk_163 (by decide) ?_
                refine lv_ior hx hb dX10_walk_166 ?_
                refine wtop_i (y := nI (mk / 2 + 128)) (or128_t ⟨mk / 2, by omega⟩) ?_
                refine lv_istore (lv' := [(5, .int (nI (mk / 2 + 128))), (2, .int (v2_17 - 0)), (7, .int 0), (6, .int 0), (0, .ref (a 0)), (1, .int x0), (3, .int (nI mk)), (4, .int (nI i))]) hx hb dX10_walk_167 hl (by decide) rfl (fun ls hl => ?_)
                refine lv_iload hx hb dX10_walk_169 (lv_at hl 0 rfl) ?_
                refine lv_istore_n (lv' := [(3, .int (nI (mk / 2 + 128))), (5, .int (nI (mk / 2 + 128))), (2, .int (v2_17 - 0)), (7, .int 0), (6, .int 0), (0, .ref (a 0)), (1, .int x0), (4, .int (nI i))]) hx hb dX10_walk_171 rfl hl (by decide) rfl (fun ls hl => ?_)
                refine lv_iinc (v := nI (i + 1)) (lv' := [(4, .int (nI (i + 1))), (3, .int (nI (mk / 2 + 128))), (5, .int (nI (mk / 2 + 128))), (2, .int (v2_17 - 0)), (7, .int 0), (6, .int 0), (0, .ref (a 0)), (1, .int x0)]) hx hb dX10_walk_172 hl (k := 7) rfl (nI_1 _) (by decide) rfl (fun ls hl => ?_)
                refine lv_goto (tgt := 17) hx hb dX10_walk_175 (by decide) ?_
                exact ih17 (i + 1) (mk / 2 + 128) (v2_17 - 0) (m0_17 ||| 0) (m1_17 ||| ((1 : Int64) <<< ((nI i : Int32).toInt64 &&& 63))) (by omega) (by omega) (sub_z hl0) (WI_C hlt_i hmk (mk1_z ⟨mk, hmk⟩ c_3) hwi) (by omega) _ _ hP hD hS ls (lv_sub hl [6, 7, 3, 1, 0] rfl)
              · refine lv_aload_n hx hb dX10_walk_63 rfl (lv_at hl 1 rfl) ?_
                refine lv_iload hx hb dX10_walk_64 (lv_at hl 5 rfl) ?_
                refine lv_iconst (v := 1) hx hb dX10_walk_66 (by decide) ?_
                refine lv_iadd hx hb dX10_walk_67 ?_
                refine wtop_i (y := nI (i + 1)) (nI_1 _) ?_
                refine lv_iload hx hb dX10_walk_68 (lv_at hl 0 rfl) ?_
                refine lv_iconst (v := 1) hx hb dX10_walk_70 (by decide) ?_
                refine lv_ior hx hb dX10_walk_71 ?_
                refine wtop_i (y := nI (mk / 2 / 2 * 2 + 1)) (or1_t ⟨mk / 2, by omega⟩) ?_
                refine kR_i (As := [.int (nI (i + 1)), .int (nI (mk / 2 / 2 * 2 + 1))]) (rest := []) (q0 := 0) ⟨hx, hb, hml, hown, hts⟩ (c_X10_waysAt l D cy a _ (va_up (va_up J 22 m0_17) 23 m1_17) I R RJ (nI (i + 1)) (nI (mk / 2 / 2 * 2 + 1)) (ix_w (by omega) (by omega))) (cwV 2 hts gX10_walk_X10_waysAt rfl rfl rfl (by decide +kernel) ⟨Nat.le_of_ble_eq_true rfl, Nat.le_of_ble_eq_true rfl⟩) hK hN hP hD rfl rfl rfl hl.1 rfl (Nat.le_of_ble_eq_true rfl) dX10_walk_72 ⟨Nat.le_of_ble_eq_true rfl, Nat.le_of_ble_eq_true rfl⟩ ?_
                refine lv_goto (tgt := 79) hx hb dX10_walk_75 (by decide) ?_
                refine lv_istore (lv' := [(6, .int ((R 12) ((256 : Int32) * (nI (i + 1)) + (nI (mk / 2 / 2 * 2 + 1))).toNatClampNeg)), (5, .int (nI (mk / 2))), (0, .ref (a 0)), (1, .int x0), (2, .int v2_17), (3, .int (nI mk)), (4, .int (nI i))]) hx hb dX10_walk_79 hl (by decide) rfl (fun ls hl => ?_)
                refine lv_iload_n hx hb dX10_walk_81 rfl (lv_at hl 4 rfl) ?_
                refine lv_iload hx hb dX10_walk_82 (lv_at hl 0 rfl) ?_
                refine lv_icmp_ge (tgt := 91) hx hb dX10_walk_84 (by decide) (fun c_16 => ?_) (fun c_16 => ?_)
                · refine lv_iconst (v := 0) hx hb dX10_walk_91 (by decide) ?_
                  refine lv_istore (lv' := [(7, .int 0), (6, .int ((R 12) ((256 : Int32) * (nI (i + 1)) + (nI (mk / 2 / 2 * 2 + 1))).toNatClampNeg)), (5, .int (nI (mk / 2))), (0, .ref (a 0)), (1, .int x0), (2, .int v2_17), (3, .int (nI mk)), (4, .int (nI i))]) hx hb dX10_walk_92 hl (by decide) rfl (fun ls hl => ?_)
                  refine lv_iload_n hx hb dX10_walk_94 rfl (lv_at hl 5 rfl) ?_
                  refine lv_iload hx hb dX10_walk_95 (lv_at hl 0 rfl) ?_
                  refine lv_if_eq (tgt := 104) hx hb dX10_walk_97 (by decide) (fun c_17 => ?_) (fun c_17 => absurd (by decide) c_17)
                  refine lv_iload hx hb dX10_walk_104 (lv_at hl 1 rfl) ?_
                  refine lv_isub hx hb dX10_walk_106 ?_
                  refine lv_istore_n (lv' := [(2, .int (v2_17 - ((R 12) ((256 : Int32) * (nI (i + 1)) + (nI (mk / 2 / 2 * 2 + 1))).toNatClampNeg))), (7, .int 0), (6, .int ((R 12) ((256 : Int32) * (nI (i + 1)) + (nI (mk / 2 / 2 * 2 + 1))).toNatClampNeg)), (5, .int (nI (mk / 2))), (0, .ref (a 0)), (1, .int x0), (3, .int (nI mk)), (4, .int (nI i))]) hx hb dX10_walk_107 rfl hl (by decide) rfl (fun ls hl => ?_)
                  refine lv_aload_n hx hb dX10_walk_108 rfl (lv_at hl 4 rfl) ?_
                  refine lv_dup hx hb dX10_walk_109 rfl ?_
                  refine va_get (D := D) (ci := 9) (v := .long m0_17) (C := RX10) (T := TX10) (N := 30) hx hb hts hi10 hown hK hP 0 rfl rfl 22 (by decide) hw1 (fun _ h9 => h9) rfl dX10_walk_110 ?_
                  refine lv_iload hx hb dX10_walk_113 (lv_at hl 1 rfl) ?_
                  refine lv_if_eq (tgt := 125) hx hb dX10_walk_115 (by decide) (fun c_18 => ?_) (fun c_18 => absurd (by decide) c_18)
                  refine lv_lconst (v := 0) hx hb dX10_walk_125 (by decide) ?_
                  refine lv_lor hx hb dX10_walk_126 ?_
                  refine va_put (D := D) (ci := 9) (v := .long (m0_17 ||| 0)) (ty := .long) (C := RX10) (T := TX10) (N := 30) hx hb hts hi10 tyX10 tyX10_ok nmX10 hown hK hP hD hS 0 rfl rfl 22 (by decide) hw1 (fun _ h9 => h9) rfl (by decide +kernel) rfl rfl (Nat.le_of_ble_eq_true rfl) dX10_walk_127 (fun H locs hP hD hS => ?_)
                  have hP : va_P D vwCl (MW cy a (va_up (va_up J 22 (m0_17 ||| 0)) 23 m1_17) I R RJ) H := hP
                  have hD : va_D A (MW cy a (va_up (va_up J 22 (m0_17 ||| 0)) 23 m1_17) I R RJ) := hD
                  refine lv_aload_n hx hb dX10_walk_130 rfl (lv_at hl 4 rfl) ?_
                  refine lv_dup hx hb dX10_walk_131 rfl ?_
                  refine va_get (D := D) (ci := 9) (v := .long m1_17) (C := RX10) (T := TX10) (N := 30) hx hb hts hi10 hown hK hP 0 rfl rfl 23 (by decide) hw2 (fun _ h9 => h9) rfl dX10_walk_132 ?_
                  refine lv_iload hx hb dX10_walk_135 (lv_at hl 1 rfl) ?_
                  refine lv_if_eq (tgt := 144) hx hb dX10_walk_137 (by decide) (fun c_19 => ?_) (fun c_19 => absurd (by decide) c_19)
                  refine lv_lconst (v := 1) hx hb dX10_walk_144 (by decide) ?_
                  refine lv_iload hx hb dX10_walk_145 (lv_at hl 7 rfl) ?_
                  refine lv_lshl (v := (1 : Int64) <<< ((nI i : Int32).toInt64 &&& 63)) hx hb dX10_walk_147 rfl ?_
                  refine lv_lor hx hb dX10_walk_148 ?_
                  refine va_put (D := D) (ci := 9) (v := .long (m1_17 ||| ((1 : Int64) <<< ((nI i : Int32).toInt64 &&& 63)))) (ty := .long) (C := RX10) (T := TX10) (N := 30) hx hb hts hi10 tyX10 tyX10_ok nmX10 hown hK hP hD hS 0 rfl rfl 23 (by decide) hw2 (fun _ h9 => h9) rfl (by decide +kernel) rfl rfl (Nat.le_of_ble_eq_true rfl) dX10_walk_149 (fun H locs hP hD hS => ?_)
                  have hP : va_P D vwCl (MW cy a (va_up (va_up J 22 (m0_17 ||| 0)) 23 (m1_17 ||| ((1 : Int64) <<< ((nI i : Int32).toInt64 &&& 63)))) I R RJ) H := hP
                  have hD : va_D A (MW cy a (va_up (va_up J 22 (m0_17 ||| 0)) 23 (m1_17 ||| ((1 : Int64) <<< ((nI i : Int32).toInt64 &&& 63)))) I R RJ) := hD
                  refine lv_iload hx hb dX10_walk_152 (lv_at hl 3 rfl) ?_
                  refine lv_iload hx hb dX10_walk_154 (lv_at hl 1 rfl) ?_
                  refine lv_if_eq (tgt := 163) hx hb dX10_walk_156 (by decide) (fun c_20 => ?_) (fun c_20 => absurd (by decide) c_20)
                  refine lv_sipush (v := 128) hx hb dX10_walk_163 (by decide) ?_
                  refine lv_ior hx hb dX10_walk_166 ?_
                  refine wtop_i (y := nI (mk / 2 + 128)) (or128_t ⟨mk / 2, by omega⟩) ?_
                  refine lv_istore (lv' := [(5, .int (nI (mk / 2 + 128))), (2, .int (v2_17 - ((R 12) ((256 : Int32) * (nI (i + 1)) + (nI (mk / 2 / 2 * 2 + 1))).toNatClampNeg))), (7, .int 0), (6, .int ((R 12) ((256 : Int32) * (nI (i + 1)) + (nI (mk / 2 / 2 * 2 + 1))).toNatClampNeg)), (0, .ref (a 0)), (1, .int x0), (3, .int (nI mk)), (4, .int (nI i))]) hx hb dX10_walk_167 hl (by decide) rfl (fun ls hl => ?_)
                  refine lv_iload hx hb dX10_walk_169 (lv_at hl 0 rfl) ?_
                  refine lv_istore_n (lv' := [(3, .int (nI (mk / 2 + 128))), (5, .int (nI (mk / 2 + 128))), (2, .int (v2_17 - ((R 12) ((256 : Int32) * (nI (i + 1)) + (nI (mk / 2 / 2 * 2 + 1))).toNatClampNeg))), (7, .int 0), (6, .int ((R 12) ((256 : Int32) * (nI (i + 1)) + (nI (mk / 2 / 2 * 2 + 1))).toNatClampNeg)), (0, .ref (a 0)), (1, .int x0), (4, .int (nI i))]) hx hb dX10_walk_171 rfl hl (by decide) rfl (fun ls hl => ?_)
                  refine lv_iinc (v := nI (i + 1)) (lv' := [(4, .int (nI (i + 1))), (3, .int (nI (mk / 2 + 128))), (5, .int (nI (mk / 2 + 128))), (2, .int (v2_17 - ((R 12) ((256 : Int32) * (nI (i + 1)) + (nI (mk / 2 / 2 * 2 + 1))).toNatClampNeg))), (7, .int 0), (6, .int ((R 12) ((256 : Int32) * (nI (i + 1)) + (nI (mk / 2 / 2 * 2 + 1))).toNatClampNeg)), (0, .ref (a 0)), (1, .int x0)]) hx hb dX10_walk_172 hl (k := 7) rfl (nI_1 _) (by decide) rfl (fun ls hl => ?_)
                  refine lv_goto (tgt := 17) hx hb dX10_walk_175 (by decide) ?_
                  exact ih17 (i + 1) (mk / 2 + 128) (v2_17 - ((R 12) ((256 : Int32) * (nI (i + 1)) + (nI (mk / 2 / 2 * 2 + 1))).toNatClampNeg)) (m0_17 ||| 0) (m1_17 ||| ((1 : Int64) <<< ((nI i : Int32).toInt64 &&& 63))) (by omega) (by omega) (sub_nn (wB_nn hwbb hlt_i (mk_or1 hmk)) c_16) (WI_C hlt_i hmk (mk1_z ⟨mk, hmk⟩ c_3) hwi) (by omega) _ _ hP hD hS ls (lv_sub hl [6, 7, 3, 1, 0] rfl)
                · refine lv_iconst (v := 1) hx hb dX10_walk_87 (by decide) ?_
                  refine lv_goto (tgt := 92) hx hb dX10_walk_88 (by decide) ?_
                  refine lv_istore (lv' := [(7, .int 1), (6, .int ((R 12) ((256 : Int32) * (nI (i + 1)) + (nI (mk / 2 / 2 * 2 + 1))).toNatClampNeg)), (5, .int (nI (mk / 2))), (0, .ref (a 0)), (1, .int x0), (2, .int v2_17), (3, .int (nI mk)), (4, .int (nI i))]) hx hb dX10_walk_92 hl (by decide) rfl (fun ls hl => ?_)
                  refine lv_iload_n hx hb dX10_walk_94 rfl (lv_at hl 5 rfl) ?_
                  refine lv_iload hx hb dX10_walk_95 (lv_at hl 0 rfl) ?_
                  refine lv_if_eq (tgt := 104) hx hb dX10_walk_97 (by decide) (fun c_21 => absurd c_21 (by decide)) (fun c_21 => ?_)
                  refine lv_iconst (v := 0) hx hb dX10_walk_100 (by decide) ?_
                  refine lv_goto (tgt := 106) hx hb dX10_walk_101 (by decide) ?_
                  refine lv_isub hx hb dX10_walk_106 ?_
                  refine lv_istore_n (lv' := [(2, .int (v2_17 - 0)), (7, .int 1), (6, .int ((R 12) ((256 : Int32) * (nI (i + 1)) + (nI (mk / 2 / 2 * 2 + 1))).toNatClampNeg)), (5, .int (nI (mk / 2))), (0, .ref (a 0)), (1, .int x0), (3, .int (nI mk)), (4, .int (nI i))]) hx hb dX10_walk_107 rfl hl (by decide) rfl (fun ls hl => ?_)
                  refine lv_aload_n hx hb dX10_walk_108 rfl (lv_at hl 4 rfl) ?_
                  refine lv_dup hx hb dX10_walk_109 rfl ?_
                  refine va_get (D := D) (ci := 9) (v := .long m0_17) (C := RX10) (T := TX10) (N := 30) hx hb hts hi10 hown hK hP 0 rfl rfl 22 (by decide) hw1 (fun _ h9 => h9) rfl dX10_walk_110 ?_
                  refine lv_iload hx hb dX10_walk_113 (lv_at hl 1 rfl) ?_
                  refine lv_if_eq (tgt := 125) hx hb dX10_walk_115 (by decide) (fun c_22 => absurd c_22 (by decide)) (fun c_22 => ?_)
                  refine lv_lconst (v := 1) hx hb dX10_walk_118 (by decide) ?_
                  refine lv_iload hx hb dX10_walk_119 (lv_at hl 7 rfl) ?_
                  refine lv_lshl (v := (1 : Int64) <<< ((nI i : Int32).toInt64 &&& 63)) hx hb dX10_walk_121 rfl ?_
                  refine lv_goto (tgt := 126) hx hb dX10_walk_122 (by decide) ?_
                  refine lv_lor hx hb dX10_walk_126 ?_
                  refine va_put (D := D) (ci := 9) (v := .long (m0_17 ||| ((1 : Int64) <<< ((nI i : Int32).toInt64 &&& 63)))) (ty := .long) (C := RX10) (T := TX10) (N := 30) hx hb hts hi10 tyX10 tyX10_ok nmX10 hown hK hP hD hS 0 rfl rfl 22 (by decide) hw1 (fun _ h9 => h9) rfl (by decide +kernel) rfl rfl (Nat.le_of_ble_eq_true rfl) dX10_walk_127 (fun H locs hP hD hS => ?_)
                  have hP : va_P D vwCl (MW cy a (va_up (va_up J 22 (m0_17 ||| ((1 : Int64) <<< ((nI i : Int32).toInt64 &&& 63)))) 23 m1_17) I R RJ) H := hP
                  have hD : va_D A (MW cy a (va_up (va_up J 22 (m0_17 ||| ((1 : Int64) <<< ((nI i : Int32).toInt64 &&& 63)))) 23 m1_17) I R RJ) := hD
                  refine lv_aload_n hx hb dX10_walk_130 rfl (lv_at hl 4 rfl) ?_
                  refine lv_dup hx hb dX10_walk_131 rfl ?_
                  refine va_get (D := D) (ci := 9) (v := .long m1_17) (C := RX10) (T := TX10) (N := 30) hx hb hts hi10 hown hK hP 0 rfl rfl 23 (by decide) hw2 (fun _ h9 => h9) rfl dX10_walk_132 ?_
                  refine lv_iload hx hb dX10_walk_135 (lv_at hl 1 rfl) ?_
                  refine lv_if_eq (tgt := 144) hx hb dX10_walk_137 (by decide) (fun c_23 => absurd c_23 (by decide)) (fun c_23 => ?_)
                  refine lv_lconst (v := 0) hx hb dX10_walk_140 (by decide) ?_
                  refine lv_goto (tgt := 148) hx hb dX10_walk_141 (by decide) ?_
                  refine lv_lor hx hb dX10_walk_148 ?_
                  refine va_put (D := D) (ci := 9) (v := .long (m1_17 ||| 0)) (ty := .long) (C := RX10) (T := TX10) (N := 30) hx hb hts hi10 tyX10 tyX10_ok nmX10 hown hK hP hD hS 0 rfl rfl 23 (by decide) hw2 (fun _ h9 => h9) rfl (by decide +kernel) rfl rfl (Nat.le_of_ble_eq_true rfl) dX10_walk_149 (fun H locs hP hD hS => ?_)
                  have hP : va_P D vwCl (MW cy a (va_up (va_up J 22 (m0_17 ||| ((1 : Int64) <<< ((nI i : Int32).toInt64 &&& 63)))) 23 (m1_17 ||| 0)) I R RJ) H := hP
                  have hD : va_D A (MW cy a (va_up (va_up J 22 (m0_17 ||| ((1 : Int64) <<< ((nI i : Int32).toInt64 &&& 63)))) 23 (m1_17 ||| 0)) I R RJ) := hD
                  refine lv_iload hx hb dX10_walk_152 (lv_at hl 3 rfl) ?_
                  refine lv_iload hx hb dX10_walk_154 (lv_at hl 1 rfl) ?_
                  refine lv_if_eq (tgt := 163) hx hb dX10_walk_156 (by decide) (fun c_24 => absurd c_24 (by decide)) (fun c_24 => ?_)
                  refine lv_iconst (v := 1) hx hb dX10_walk_159 (by decide) ?_
                  refine lv_goto (tgt := 166) hx hb dX10_walk_160 (by decide) ?_
                  refine lv_ior hx hb dX10_walk_166 ?_
                  refine wtop_i (y := nI (mk / 2 / 2 * 2 + 1)) (or1_t ⟨mk / 2, by omega⟩) ?_
                  refine lv_istore (lv' := [(5, .int (nI (mk / 2 / 2 * 2 + 1))), (2, .int (v2_17 - 0)), (7, .int 1), (6, .int ((R 12) ((256 : Int32) * (nI (i + 1)) + (nI (mk / 2 / 2 * 2 + 1))).toNatClampNeg)), (0, .ref (a 0)), (1, .int x0), (3, .int (nI mk)), (4, .int (nI i))]) hx hb dX10_walk_167 hl (by decide) rfl (fun ls hl => ?_)
                  refine lv_iload hx hb dX10_walk_169 (lv_at hl 0 rfl) ?_
                  refine lv_istore_n (lv' := [(3, .int (nI (mk / 2 / 2 * 2 + 1))), (5, .int (nI (mk / 2 / 2 * 2 + 1))), (2, .int (v2_17 - 0)), (7, .int 1), (6, .int ((R 12) ((256 : Int32) * (nI (i + 1)) + (nI (mk / 2 / 2 * 2 + 1))).toNatClampNeg)), (0, .ref (a 0)), (1, .int x0), (4, .int (nI i))]) hx hb dX10_walk_171 rfl hl (by decide) rfl (fun ls hl => ?_)
                  refine lv_iinc (v := nI (i + 1)) (lv' := [(4, .int (nI (i + 1))), (3, .int (nI (mk / 2 / 2 * 2 + 1))), (5, .int (nI (mk / 2 / 2 * 2 + 1))), (2, .int (v2_17 - 0)), (7, .int 1), (6, .int ((R 12) ((256 : Int32) * (nI (i + 1)) + (nI (mk / 2 / 2 * 2 + 1))).toNatClampNeg)), (0, .ref (a 0)), (1, .int x0)]) hx hb dX10_walk_172 hl (k := 7) rfl (nI_1 _) (by decide) rfl (fun ls hl => ?_)
                  refine lv_goto (tgt := 17) hx hb dX10_walk_175 (by decide) ?_
                  exact ih17 (i + 1) (mk / 2 / 2 * 2 + 1) (v2_17 - 0) (m0_17 ||| ((1 : Int64) <<< ((nI i : Int32).toInt64 &&& 63))) (m1_17 ||| 0) (by omega) (by omega) (sub_z hl0) (WI_A hlt_i hmk (mk1_z ⟨mk, hmk⟩ c_3) (mk2_t ⟨mk, hmk⟩ c_10) hwi) (by omega) _ _ hP hD hS ls (lv_sub hl [6, 7, 3, 1, 0] rfl)
  refine lv_iload_n hx hb dX10_walk_0 rfl (lv_at hl 1 rfl) ?_
  refine lv_istore_n (lv' := [(2, .int x0), (0, .ref (a 0)), (1, .int x0)]) hx hb dX10_walk_1 rfl hl (by decide) rfl (fun ls hl => ?_)
  refine lv_iconst (v := 0) hx hb dX10_walk_2 (by decide) ?_
  refine lv_istore_n (lv' := [(3, .int 0), (2, .int x0), (0, .ref (a 0)), (1, .int x0)]) hx hb dX10_walk_3 rfl hl (by decide) rfl (fun ls hl => ?_)
  refine lv_aload_n hx hb dX10_walk_4 rfl (lv_at hl 2 rfl) ?_
  refine lv_lconst (v := 0) hx hb dX10_walk_5 (by decide) ?_
  refine va_put (D := D) (ci := 9) (v := .long 0) (ty := .long) (C := RX10) (T := TX10) (N := 30) hx hb hts hi10 tyX10 tyX10_ok nmX10 hown hK hP hD hS 0 rfl rfl 22 (by decide) hw1 (fun _ h9 => h9) rfl (by decide +kernel) rfl rfl (Nat.le_of_ble_eq_true rfl) dX10_walk_6 (fun H locs hP hD hS => ?_)
  have hP : va_P D vwCl (MW cy a (va_up (va_up J 22 0) 23 (J 23)) I R RJ) H := hP
  have hD : va_D A (MW cy a (va_up (va_up J 22 0) 23 (J 23)) I R RJ) := hD
  refine lv_aload_n hx hb dX10_walk_9 rfl (lv_at hl 2 rfl) ?_
  refine lv_lconst (v := 0) hx hb dX10_walk_10 (by decide) ?_
  refine va_put (D := D) (ci := 9) (v := .long 0) (ty := .long) (C := RX10) (T := TX10) (N := 30) hx hb hts hi10 tyX10 tyX10_ok nmX10 hown hK hP hD hS 0 rfl rfl 23 (by decide) hw2 (fun _ h9 => h9) rfl (by decide +kernel) rfl rfl (Nat.le_of_ble_eq_true rfl) dX10_walk_11 (fun H locs hP hD hS => ?_)
  have hP : va_P D vwCl (MW cy a (va_up (va_up J 22 0) 23 0) I R RJ) H := hP
  have hD : va_D A (MW cy a (va_up (va_up J 22 0) 23 0) I R RJ) := hD
  refine lv_iconst (v := 0) hx hb dX10_walk_14 (by decide) ?_
  refine lv_istore (lv' := [(4, .int 0), (3, .int 0), (2, .int x0), (0, .ref (a 0)), (1, .int x0)]) hx hb dX10_walk_15 hl (by decide) rfl (fun ls hl => ?_)
  exact lp17 _ 0 0 x0 0 0 (by omega) (by omega) hx0 WI_0 (Nat.lt_succ_self _) _ _ hP hD hS ls (lv_sub hl [3, 4, 2, 1, 0] rfl)
set_option maxHeartbeats 4000000 in
set_option maxRecDepth 100000 in
theorem t_X10_turnAtD (l : Launch) (D : va_G) (cy : Nat → ClassId) (a : Nat → Nat) (sz : Nat) (J : Nat → Int64) (I : Nat → Int32) (R : Nat → Nat → Int32) (RJ : Nat → Nat → Int64) (x0 : Int64) (x1 : Int64) (x2 : Nat) (hx2 : x2 < 64) : Met l yX10_turnAt wsX10_turnAt ({ frames := 1, cells := 0, slots := 0, locals := 22 }) (va_Pc [.ref (a 0), .long x0, .long x1, .int (nI x2)] (PW D cy sz (MW cy a J I R RJ))) (va_Qi (fun r (u : MS) => ((tAk x0 x1 x2 r)) ∧ u = (J, I, R, RJ)) (BW D (va_A (MW cy a J I R RJ) sz) (MWu cy a)) (va_A (MW cy a J I R RJ) sz)) 0 0 (va_A (MW cy a J I R RJ) sz) := by
  refine Met.ofW (cc := cX10_turnAt) (maxL := 6) (ret := (some .int)) (by decide) rfl ?_
  intro p e s m args below meth c s₁ B hml hv
  obtain ⟨rfl, rfl, hP, hK, hN, hD0⟩ := hv
  have hx := B.exec
  have hb := B.bytes
  have hr := B.returns
  have hts := atoms_spec (ws := wsX10_turnAt) B.pre
  have hown : s.vm.findClass RX10 = some m.cls := findClass_of_methodNamed B.named
  have hlocks := B.notSynchronized
  have hw0 := hts (.fieldLink RX10 187 "ParquetLayerModel" "mustAcross" "J") (by decide +kernel)
  have hw1 := hts (.fieldLink RX10 184 "ParquetLayerModel" "mustAlong" "J") (by decide +kernel)
  have hi10 := ihX10_turnAt_10
  have hD := hD0.self (sz := s.heap.size)
  generalize hAe : va_A (MW cy a J I R RJ) s.heap.size = A at hD ⊢
  have hA : ∀ q : Nat, s.heap.size ≤ q → A q := fun q h => by rw [← hAe]; exact Or.inr h
  have hS : va_S A s.heap s.heap [] := va_S.rf
  have hl := lv_entry ([.ref (a 0), .long x0, .long x1, .int (nI x2)]) (n := 6) (Nat.le_of_ble_eq_true rfl)
  rw [lg_entry_eq]
  generalize (lg_sl ([.ref (a 0), .long x0, .long x1, .int (nI x2)]) ++ List.replicate (6 - (lg_sl ([.ref (a 0), .long x0, .long x1, .int (nI x2)])).length) Slot.unset).toArray = ls at hl ⊢
  have hl : lv_has ls 6 [(0, .ref (a 0)), (1, .long x0), (3, .long x1), (5, .int (nI x2))] := hl
  refine lv_iload hx hb dX10_turnAt_0 (lv_at hl 3 rfl) ?_
  refine lv_bipush (v := 8) hx hb dX10_turnAt_2 (by decide) ?_
  refine lv_irem hx hb dX10_turnAt_4 (by decide) ?_
  refine lv_bipush (v := 6) hx hb dX10_turnAt_5 (by decide) ?_
  refine lv_icmp_gt (tgt := 20) hx hb dX10_turnAt_7 (by decide) (fun c_1 => ?_) (fun c_1 => ?_)
  · refine lv_iconst (v := 0) hx hb dX10_turnAt_20 (by decide) ?_
    exact wret_i hx hb hr hlocks (J, I, R, RJ) ⟨(Or.inl rfl), rfl⟩ hP hD hS dX10_turnAt_21
  · refine lv_iload hx hb dX10_turnAt_10 (lv_at hl 3 rfl) ?_
    refine lv_bipush (v := 8) hx hb dX10_turnAt_12 (by decide) ?_
    refine lv_idiv hx hb dX10_turnAt_14 (by decide) ?_
    refine lv_bipush (v := 6) hx hb dX10_turnAt_15 (by decide) ?_
    refine lv_icmp_le (tgt := 22) hx hb dX10_turnAt_17 (by decide) (fun c_2 => ?_) (fun c_2 => ?_)
    · refine lv_lload_n hx hb dX10_turnAt_22 rfl (lv_at hl 1 rfl) ?_
      refine lv_iload hx hb dX10_turnAt_23 (lv_at hl 3 rfl) ?_
      refine kS_i (As := [.long x0, .int (nI x2)]) (rest := []) ⟨hx, hb, hml, hown, hts⟩ (c_X10_hasBit l x0 (nI x2)) (va_cwS 2 hts gX10_turnAt_X10_hasBit rfl rfl rfl (by decide +kernel) ⟨Nat.le_of_ble_eq_true rfl, Nat.le_of_ble_eq_true rfl⟩) rfl hl.1 rfl (Nat.le_of_ble_eq_true rfl) dX10_turnAt_25 ⟨Nat.le_of_ble_eq_true rfl, Nat.le_of_ble_eq_true rfl⟩ ?_
      refine lv_if_eq (tgt := 76) hx hb dX10_turnAt_28 (by decide) (fun c_3 => ?_) (fun c_3 => ?_)
      · replace c_3 := bI_f c_3
        refine lv_lload_n hx hb dX10_turnAt_76 rfl (lv_at hl 2 rfl) ?_
        refine lv_iload hx hb dX10_turnAt_77 (lv_at hl 3 rfl) ?_
        refine kS_i (As := [.long x1, .int (nI x2)]) (rest := []) ⟨hx, hb, hml, hown, hts⟩ (c_X10_hasBit l x1 (nI x2)) (va_cwS 2 hts gX10_turnAt_X10_hasBit rfl rfl rfl (by decide +kernel) ⟨Nat.le_of_ble_eq_true rfl, Nat.le_of_ble_eq_true rfl⟩) rfl hl.1 rfl (Nat.le_of_ble_eq_true rfl) dX10_turnAt_79 ⟨Nat.le_of_ble_eq_true rfl, Nat.le_of_ble_eq_true rfl⟩ ?_
        refine lv_if_eq (tgt := 128) hx hb dX10_turnAt_82 (by decide) (fun c_4 => ?_) (fun c_4 => ?_)
        · replace c_4 := bI_f c_4
          refine lv_iconst (v := 0) hx hb dX10_turnAt_128 (by decide) ?_
          exact wret_i hx hb hr hlocks (J, I, R, RJ) ⟨(Or.inl rfl), rfl⟩ hP hD hS dX10_turnAt_129
        · replace c_4 := bI_t c_4
          refine lv_lload_n hx hb dX10_turnAt_85 rfl (lv_at hl 2 rfl) ?_
          refine lv_iload hx hb dX10_turnAt_86 (lv_at hl 3 rfl) ?_
          refine lv_iconst (v := 1) hx hb dX10_turnAt_88 (by decide) ?_
          refine lv_iadd hx hb dX10_turnAt_89 ?_
          refine kS_i (As := [.long x1, .int ((nI x2) + 1)]) (rest := []) ⟨hx, hb, hml, hown, hts⟩ (c_X10_hasBit l x1 ((nI x2) + 1)) (va_cwS 2 hts gX10_turnAt_X10_hasBit rfl rfl rfl (by decide +kernel) ⟨Nat.le_of_ble_eq_true rfl, Nat.le_of_ble_eq_true rfl⟩) rfl hl.1 rfl (Nat.le_of_ble_eq_true rfl) dX10_turnAt_90 ⟨Nat.le_of_ble_eq_true rfl, Nat.le_of_ble_eq_true rfl⟩ ?_
          refine lv_if_eq (tgt := 128) hx hb dX10_turnAt_93 (by decide) (fun c_5 => ?_) (fun c_5 => ?_)
          · replace c_5 := bI_f c_5
            refine lv_iconst (v := 0) hx hb dX10_turnAt_128 (by decide) ?_
            exact wret_i hx hb hr hlocks (J, I, R, RJ) ⟨(Or.inl rfl), rfl⟩ hP hD hS dX10_turnAt_129
          · replace c_5 := bI_t c_5
            refine lv_aload_n hx hb dX10_turnAt_96 rfl (lv_at hl 0 rfl) ?_
            refine va_get (D := D) (ci := 9) (v := .long (J 20)) (C := RX10) (T := TX10) (N := 30) hx hb hts hi10 hown hK hP 0 rfl rfl 20 (by decide) hw0 (fun _ h9 => h9) rfl dX10_turnAt_97 ?_
            refine lv_iload hx hb dX10_turnAt_100 (lv_at hl 3 rfl) ?_
            refine kS_i (As := [.long (J 20), .int (nI x2)]) (rest := []) ⟨hx, hb, hml, hown, hts⟩ (c_X10_hasBit l (J 20) (nI x2)) (va_cwS 2 hts gX10_turnAt_X10_hasBit rfl rfl rfl (by decide +kernel) ⟨Nat.le_of_ble_eq_true rfl, Nat.le_of_ble_eq_true rfl⟩) rfl hl.1 rfl (Nat.le_of_ble_eq_true rfl) dX10_turnAt_102 ⟨Nat.le_of_ble_eq_true rfl, Nat.le_of_ble_eq_true rfl⟩ ?_
            refine lv_if_ne (tgt := 122) hx hb dX10_turnAt_105 (by decide) (fun c_6 => ?_) (fun c_6 => ?_)
            · replace c_6 := bI_t c_6
              refine lv_iconst (v := 0) hx hb dX10_turnAt_122 (by decide) ?_
              refine lv_goto (tgt := 127) hx hb dX10_turnAt_123 (by decide) ?_
              exact wret_i hx hb hr hlocks (J, I, R, RJ) ⟨(Or.inl rfl), rfl⟩ hP hD hS dX10_turnAt_127
            · replace c_6 := bI_f c_6
              refine lv_aload_n hx hb dX10_turnAt_108 rfl (lv_at hl 0 rfl) ?_
              refine va_get (D := D) (ci := 9) (v := .long (J 20)) (C := RX10) (T := TX10) (N := 30) hx hb hts hi10 hown hK hP 0 rfl rfl 20 (by decide) hw0 (fun _ h9 => h9) rfl dX10_turnAt_109 ?_
              refine lv_iload hx hb dX10_turnAt_112 (lv_at hl 3 rfl) ?_
              refine lv_iconst (v := 1) hx hb dX10_turnAt_114 (by decide) ?_
              refine lv_iadd hx hb dX10_turnAt_115 ?_
              refine kS_i (As := [.long (J 20), .int ((nI x2) + 1)]) (rest := []) ⟨hx, hb, hml, hown, hts⟩ (c_X10_hasBit l (J 20) ((nI x2) + 1)) (va_cwS 2 hts gX10_turnAt_X10_hasBit rfl rfl rfl (by decide +kernel) ⟨Nat.le_of_ble_eq_true rfl, Nat.le_of_ble_eq_true rfl⟩) rfl hl.1 rfl (Nat.le_of_ble_eq_true rfl) dX10_turnAt_116 ⟨Nat.le_of_ble_eq_true rfl, Nat.le_of_ble_eq_true rfl⟩ ?_
              refine lv_if_eq (tgt := 126) hx hb dX10_turnAt_119 (by decide) (fun c_7 => ?_) (fun c_7 => ?_)
              · replace c_7 := bI_f c_7
                refine lv_iconst (v := 2) hx hb dX10_turnAt_126 (by decide) ?_
                exact wret_i hx hb hr hlocks (J, I, R, RJ) ⟨(ta_2 hx2 c_1 c_2 c_4 c_5), rfl⟩ hP hD hS dX10_turnAt_127
              · replace c_7 := bI_t c_7
                refine lv_iconst (v := 0) hx hb dX10_turnAt_122 (by decide) ?_
                refine lv_goto (tgt := 127) hx hb dX10_turnAt_123 (by decide) ?_
                exact wret_i hx hb hr hlocks (J, I, R, RJ) ⟨(Or.inl rfl), rfl⟩ hP hD hS dX10_turnAt_127
      · replace c_3 := bI_t c_3
        refine lv_lload_n hx hb dX10_turnAt_31 rfl (lv_at hl 1 rfl) ?_
        refine lv_iload hx hb dX10_turnAt_32 (lv_at hl 3 rfl) ?_
        refine lv_bipush (v := 8) hx hb dX10_turnAt_34 (by decide) ?_
        refine lv_iadd hx hb dX10_turnAt_36 ?_
        refine kS_i (As := [.long x0, .int ((nI x2) + 8)]) (rest := []) ⟨hx, hb, hml, hown, hts⟩ (c_X10_hasBit l x0 ((nI x2) + 8)) (va_cwS 2 hts gX10_turnAt_X10_hasBit rfl rfl rfl (by decide +kernel) ⟨Nat.le_of_ble_eq_true rfl, Nat.le_of_ble_eq_true rfl⟩) rfl hl.1 rfl (Nat.le_of_ble_eq_true rfl) dX10_turnAt_37 ⟨Nat.le_of_ble_eq_true rfl, Nat.le_of_ble_eq_true rfl⟩ ?_
        refine lv_if_eq (tgt := 76) hx hb dX10_turnAt_40 (by decide) (fun c_8 => ?_) (fun c_8 => ?_)
        · replace c_8 := bI_f c_8
          refine lv_lload_n hx hb dX10_turnAt_76 rfl (lv_at hl 2 rfl) ?_
          refine lv_iload hx hb dX10_turnAt_77 (lv_at hl 3 rfl) ?_
          refine kS_i (As := [.long x1, .int (nI x2)]) (rest := []) ⟨hx, hb, hml, hown, hts⟩ (c_X10_hasBit l x1 (nI x2)) (va_cwS 2 hts gX10_turnAt_X10_hasBit rfl rfl rfl (by decide +kernel) ⟨Nat.le_of_ble_eq_true rfl, Nat.le_of_ble_eq_true rfl⟩) rfl hl.1 rfl (Nat.le_of_ble_eq_true rfl) dX10_turnAt_79 ⟨Nat.le_of_ble_eq_true rfl, Nat.le_of_ble_eq_true rfl⟩ ?_
          refine lv_if_eq (tgt := 128) hx hb dX10_turnAt_82 (by decide) (fun c_9 => ?_) (fun c_9 => ?_)
          · replace c_9 := bI_f c_9
            refine lv_iconst (v := 0) hx hb dX10_turnAt_128 (by decide) ?_
            exact wret_i hx hb hr hlocks (J, I, R, RJ) ⟨(Or.inl rfl), rfl⟩ hP hD hS dX10_turnAt_129
          · replace c_9 := bI_t c_9
            refine lv_lload_n hx hb dX10_turnAt_85 rfl (lv_at hl 2 rfl) ?_
            refine lv_iload hx hb dX10_turnAt_86 (lv_at hl 3 rfl) ?_
            refine lv_iconst (v := 1) hx hb dX10_turnAt_88 (by decide) ?_
            refine lv_iadd hx hb dX10_turnAt_89 ?_
            refine kS_i (As := [.long x1, .int ((nI x2) + 1)]) (rest := []) ⟨hx, hb, hml, hown, hts⟩ (c_X10_hasBit l x1 ((nI x2) + 1)) (va_cwS 2 hts gX10_turnAt_X10_hasBit rfl rfl rfl (by decide +kernel) ⟨Nat.le_of_ble_eq_true rfl, Nat.le_of_ble_eq_true rfl⟩) rfl hl.1 rfl (Nat.le_of_ble_eq_true rfl) dX10_turnAt_90 ⟨Nat.le_of_ble_eq_true rfl, Nat.le_of_ble_eq_true rfl⟩ ?_
            refine lv_if_eq (tgt := 128) hx hb dX10_turnAt_93 (by decide) (fun c_10 => ?_) (fun c_10 => ?_)
            · replace c_10 := bI_f c_10
              refine lv_iconst (v := 0) hx hb dX10_turnAt_128 (by decide) ?_
              exact wret_i hx hb hr hlocks (J, I, R, RJ) ⟨(Or.inl rfl), rfl⟩ hP hD hS dX10_turnAt_129
            · replace c_10 := bI_t c_10
              refine lv_aload_n hx hb dX10_turnAt_96 rfl (lv_at hl 0 rfl) ?_
              refine va_get (D := D) (ci := 9) (v := .long (J 20)) (C := RX10) (T := TX10) (N := 30) hx hb hts hi10 hown hK hP 0 rfl rfl 20 (by decide) hw0 (fun _ h9 => h9) rfl dX10_turnAt_97 ?_
              refine lv_iload hx hb dX10_turnAt_100 (lv_at hl 3 rfl) ?_
              refine kS_i (As := [.long (J 20), .int (nI x2)]) (rest := []) ⟨hx, hb, hml, hown, hts⟩ (c_X10_hasBit l (J 20) (nI x2)) (va_cwS 2 hts gX10_turnAt_X10_hasBit rfl rfl rfl (by decide +kernel) ⟨Nat.le_of_ble_eq_true rfl, Nat.le_of_ble_eq_true rfl⟩) rfl hl.1 rfl (Nat.le_of_ble_eq_true rfl) dX10_turnAt_102 ⟨Nat.le_of_ble_eq_true rfl, Nat.le_of_ble_eq_true rfl⟩ ?_
              refine lv_if_ne (tgt := 122) hx hb dX10_turnAt_105 (by decide) (fun c_11 => ?_) (fun c_11 => ?_)
              · replace c_11 := bI_t c_11
                refine lv_iconst (v := 0) hx hb dX10_turnAt_122 (by decide) ?_
                refine lv_goto (tgt := 127) hx hb dX10_turnAt_123 (by decide) ?_
                exact wret_i hx hb hr hlocks (J, I, R, RJ) ⟨(Or.inl rfl), rfl⟩ hP hD hS dX10_turnAt_127
              · replace c_11 := bI_f c_11
                refine lv_aload_n hx hb dX10_turnAt_108 rfl (lv_at hl 0 rfl) ?_
                refine va_get (D := D) (ci := 9) (v := .long (J 20)) (C := RX10) (T := TX10) (N := 30) hx hb hts hi10 hown hK hP 0 rfl rfl 20 (by decide) hw0 (fun _ h9 => h9) rfl dX10_turnAt_109 ?_
                refine lv_iload hx hb dX10_turnAt_112 (lv_at hl 3 rfl) ?_
                refine lv_iconst (v := 1) hx hb dX10_turnAt_114 (by decide) ?_
                refine lv_iadd hx hb dX10_turnAt_115 ?_
                refine kS_i (As := [.long (J 20), .int ((nI x2) + 1)]) (rest := []) ⟨hx, hb, hml, hown, hts⟩ (c_X10_hasBit l (J 20) ((nI x2) + 1)) (va_cwS 2 hts gX10_turnAt_X10_hasBit rfl rfl rfl (by decide +kernel) ⟨Nat.le_of_ble_eq_true rfl, Nat.le_of_ble_eq_true rfl⟩) rfl hl.1 rfl (Nat.le_of_ble_eq_true rfl) dX10_turnAt_116 ⟨Nat.le_of_ble_eq_true rfl, Nat.le_of_ble_eq_true rfl⟩ ?_
                refine lv_if_eq (tgt := 126) hx hb dX10_turnAt_119 (by decide) (fun c_12 => ?_) (fun c_12 => ?_)
                · replace c_12 := bI_f c_12
                  refine lv_iconst (v := 2) hx hb dX10_turnAt_126 (by decide) ?_
                  exact wret_i hx hb hr hlocks (J, I, R, RJ) ⟨(ta_2 hx2 c_1 c_2 c_9 c_10), rfl⟩ hP hD hS dX10_turnAt_127
                · replace c_12 := bI_t c_12
                  refine lv_iconst (v := 0) hx hb dX10_turnAt_122 (by decide) ?_
                  refine lv_goto (tgt := 127) hx hb dX10_turnAt_123 (by decide) ?_
                  exact wret_i hx hb hr hlocks (J, I, R, RJ) ⟨(Or.inl rfl), rfl⟩ hP hD hS dX10_turnAt_127
        · replace c_8 := bI_t c_8
          refine lv_aload_n hx hb dX10_turnAt_43 rfl (lv_at hl 0 rfl) ?_
          refine va_get (D := D) (ci := 9) (v := .long (J 19)) (C := RX10) (T := TX10) (N := 30) hx hb hts hi10 hown hK hP 0 rfl rfl 19 (by decide) hw1 (fun _ h9 => h9) rfl dX10_turnAt_44 ?_
          refine lv_iload hx hb dX10_turnAt_47 (lv_at hl 3 rfl) ?_
          refine kS_i (As := [.long (J 19), .int (nI x2)]) (rest := []) ⟨hx, hb, hml, hown, hts⟩ (c_X10_hasBit l (J 19) (nI x2)) (va_cwS 2 hts gX10_turnAt_X10_hasBit rfl rfl rfl (by decide +kernel) ⟨Nat.le_of_ble_eq_true rfl, Nat.le_of_ble_eq_true rfl⟩) rfl hl.1 rfl (Nat.le_of_ble_eq_true rfl) dX10_turnAt_49 ⟨Nat.le_of_ble_eq_true rfl, Nat.le_of_ble_eq_true rfl⟩ ?_
          refine lv_if_ne (tgt := 70) hx hb dX10_turnAt_52 (by decide) (fun c_13 => ?_) (fun c_13 => ?_)
          · replace c_13 := bI_t c_13
            refine lv_iconst (v := 0) hx hb dX10_turnAt_70 (by decide) ?_
            refine lv_goto (tgt := 75) hx hb dX10_turnAt_71 (by decide) ?_
            exact wret_i hx hb hr hlocks (J, I, R, RJ) ⟨(Or.inl rfl), rfl⟩ hP hD hS dX10_turnAt_75
          · replace c_13 := bI_f c_13
            refine lv_aload_n hx hb dX10_turnAt_55 rfl (lv_at hl 0 rfl) ?_
            refine va_get (D := D) (ci := 9) (v := .long (J 19)) (C := RX10) (T := TX10) (N := 30) hx hb hts hi10 hown hK hP 0 rfl rfl 19 (by decide) hw1 (fun _ h9 => h9) rfl dX10_turnAt_56 ?_
            refine lv_iload hx hb dX10_turnAt_59 (lv_at hl 3 rfl) ?_
            refine lv_bipush (v := 8) hx hb dX10_turnAt_61 (by decide) ?_
            refine lv_iadd hx hb dX10_turnAt_63 ?_
            refine kS_i (As := [.long (J 19), .int ((nI x2) + 8)]) (rest := []) ⟨hx, hb, hml, hown, hts⟩ (c_X10_hasBit l (J 19) ((nI x2) + 8)) (va_cwS 2 hts gX10_turnAt_X10_hasBit rfl rfl rfl (by decide +kernel) ⟨Nat.le_of_ble_eq_true rfl, Nat.le_of_ble_eq_true rfl⟩) rfl hl.1 rfl (Nat.le_of_ble_eq_true rfl) dX10_turnAt_64 ⟨Nat.le_of_ble_eq_true rfl, Nat.le_of_ble_eq_true rfl⟩ ?_
            refine lv_if_eq (tgt := 74) hx hb dX10_turnAt_67 (by decide) (fun c_14 => ?_) (fun c_14 => ?_)
            · replace c_14 := bI_f c_14
              refine lv_iconst (v := 1) hx hb dX10_turnAt_74 (by decide) ?_
              exact wret_i hx hb hr hlocks (J, I, R, RJ) ⟨(ta_1 hx2 c_1 c_2 c_3 c_8), rfl⟩ hP hD hS dX10_turnAt_75
            · replace c_14 := bI_t c_14
              refine lv_iconst (v := 0) hx hb dX10_turnAt_70 (by decide) ?_
              refine lv_goto (tgt := 75) hx hb dX10_turnAt_71 (by decide) ?_
              exact wret_i hx hb hr hlocks (J, I, R, RJ) ⟨(Or.inl rfl), rfl⟩ hP hD hS dX10_turnAt_75
    · refine lv_iconst (v := 0) hx hb dX10_turnAt_20 (by decide) ?_
      exact wret_i hx hb hr hlocks (J, I, R, RJ) ⟨(Or.inl rfl), rfl⟩ hP hD hS dX10_turnAt_21
