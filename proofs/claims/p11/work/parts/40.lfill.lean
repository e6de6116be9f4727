theorem ixf {x k n : Nat} (h : x + 256 ≤ n) (hk : k < 256) (hn : n < 2 ^ 31) : vp_in (nI x + nI k) n := by
  rw [nI_add]
  exact vp_in_nI (by omega) hn
theorem and_wd (y : Int32) {w : Nat} (hw : w < 256) : ∃ j, j < 256 ∧ y &&& nI w = nI j := by
  have hw2 : (nI w).toBitVec.toNat = w := by
    show (BitVec.ofNat 32 w).toNat = w
    rw [BitVec.toNat_ofNat]
    exact Nat.mod_eq_of_lt (by omega)
  refine ⟨(y &&& nI w).toBitVec.toNat, ?_, ?_⟩
  · rw [Int32.toBitVec_and, BitVec.toNat_and, hw2]
    exact Nat.lt_of_le_of_lt Nat.and_le_right hw
  · apply Int32.toBitVec_inj.mp
    apply BitVec.eq_of_toNat_eq
    show _ = (BitVec.ofNat 32 (y &&& nI w).toBitVec.toNat).toNat
    rw [BitVec.toNat_ofNat]
    exact (Nat.mod_eq_of_lt (y &&& nI w).toBitVec.isLt).symm
theorem fl_lt {i : Nat} (hi : i ≤ 256) (q : ¬ nI (256 - i) ≤ 0) : i < 256 := by
  rcases Nat.lt_or_ge i 256 with h | h
  · exact h
  · have e : i = 256 := Nat.le_antisymm hi h
    subst e
    exact absurd (by decide) q
theorem fl_dec {i : Nat} (hi : i < 256) : nI (256 - i) + (-1) = nI (256 - (i + 1)) := by
  rw [show 256 - i = (256 - (i + 1)) + 1 by omega, ← Int32.sub_eq_add_neg, nI_s1]
theorem ixa {f k : Nat} (hf : f < 64) (hk : k < 256) : vp_in (nI ((f + 1) * 256) + nI k) 16640 := by
  rw [nI_add]
  exact vp_in_nI (by omega) (by decide)
theorem dX4_fill_120 : decode cX4_fill 120 = .ok (.aload_n 0, 1) := by decide +kernel
theorem dX4_fill_121 : decode cX4_fill 121 = .ok (.iload_n 1, 1) := by decide +kernel
theorem dX4_fill_122 : decode cX4_fill 122 = .ok (.iload 9, 2) := by decide +kernel
theorem dX4_fill_124 : decode cX4_fill 124 = .ok (.iadd, 1) := by decide +kernel
theorem dX4_fill_125 : decode cX4_fill 125 = .ok (.iload 12, 2) := by decide +kernel
theorem dX4_fill_127 : decode cX4_fill 127 = .ok (.iastore, 1) := by decide +kernel
theorem dX4_fill_128 : decode cX4_fill 128 = .ok (.iload 9, 2) := by decide +kernel
theorem dX4_fill_130 : decode cX4_fill 130 = .ok (.ifCond .ne 6, 3) := by decide +kernel
theorem dX4_fill_136 : decode cX4_fill 136 = .ok (.iload 9, 2) := by decide +kernel
theorem dX4_fill_138 : decode cX4_fill 138 = .ok (.iconst 1, 1) := by decide +kernel
theorem dX4_fill_139 : decode cX4_fill 139 = .ok (.isub, 1) := by decide +kernel
theorem dX4_fill_140 : decode cX4_fill 140 = .ok (.iload 6, 2) := by decide +kernel
theorem dX4_fill_142 : decode cX4_fill 142 = .ok (.iand, 1) := by decide +kernel
theorem dX4_fill_143 : decode cX4_fill 143 = .ok (.istore 9, 2) := by decide +kernel
theorem dX4_fill_145 : decode cX4_fill 145 = .ok (.iinc 10 (-1), 3) := by decide +kernel
theorem dX4_fill_148 : decode cX4_fill 148 = .ok (.goto (-112), 3) := by decide +kernel
theorem dX4_fill_133 : decode cX4_fill 133 = .ok (.goto 18, 3) := by decide +kernel
theorem dX4_fill_151 : decode cX4_fill 151 = .ok (.return_, 1) := by decide +kernel
theorem dX4_fill_36 : decode cX4_fill 36 = .ok (.iload 10, 2) := by decide +kernel
theorem dX4_fill_38 : decode cX4_fill 38 = .ok (.ifCond .le 113, 3) := by decide +kernel
theorem dX4_fill_41 : decode cX4_fill 41 = .ok (.iload 9, 2) := by decide +kernel
theorem dX4_fill_43 : decode cX4_fill 43 = .ok (.iconst 1, 1) := by decide +kernel
theorem dX4_fill_44 : decode cX4_fill 44 = .ok (.ishr, 1) := by decide +kernel
theorem dX4_fill_45 : decode cX4_fill 45 = .ok (.istore 11, 2) := by decide +kernel
theorem dX4_fill_47 : decode cX4_fill 47 = .ok (.iconst 0, 1) := by decide +kernel
theorem dX4_fill_48 : decode cX4_fill 48 = .ok (.istore 12, 2) := by decide +kernel
theorem dX4_fill_50 : decode cX4_fill 50 = .ok (.iload 6, 2) := by decide +kernel
theorem dX4_fill_52 : decode cX4_fill 52 = .ok (.iconst 1, 1) := by decide +kernel
theorem dX4_fill_53 : decode cX4_fill 53 = .ok (.iand, 1) := by decide +kernel
theorem dX4_fill_54 : decode cX4_fill 54 = .ok (.ifCond .eq 10, 3) := by decide +kernel
theorem dX4_fill_64 : decode cX4_fill 64 = .ok (.aload_n 0, 1) := by decide +kernel
theorem dX4_fill_65 : decode cX4_fill 65 = .ok (.iload_n 2, 1) := by decide +kernel
theorem dX4_fill_66 : decode cX4_fill 66 = .ok (.iload 11, 2) := by decide +kernel
theorem dX4_fill_68 : decode cX4_fill 68 = .ok (.iadd, 1) := by decide +kernel
theorem dX4_fill_69 : decode cX4_fill 69 = .ok (.iaload, 1) := by decide +kernel
theorem dX4_fill_70 : decode cX4_fill 70 = .ok (.istore 12, 2) := by decide +kernel
theorem dX4_fill_72 : decode cX4_fill 72 = .ok (.goto 48, 3) := by decide +kernel
theorem dX4_fill_57 : decode cX4_fill 57 = .ok (.iload 9, 2) := by decide +kernel
theorem dX4_fill_59 : decode cX4_fill 59 = .ok (.iconst 1, 1) := by decide +kernel
theorem dX4_fill_60 : decode cX4_fill 60 = .ok (.iand, 1) := by decide +kernel
theorem dX4_fill_61 : decode cX4_fill 61 = .ok (.ifCond .eq 14, 3) := by decide +kernel
theorem dX4_fill_75 : decode cX4_fill 75 = .ok (.iload 7, 2) := by decide +kernel
theorem dX4_fill_77 : decode cX4_fill 77 = .ok (.ifCond .eq 23, 3) := by decide +kernel
theorem dX4_fill_100 : decode cX4_fill 100 = .ok (.iload 8, 2) := by decide +kernel
theorem dX4_fill_102 : decode cX4_fill 102 = .ok (.ifCond .eq 18, 3) := by decide +kernel
theorem dX4_fill_105 : decode cX4_fill 105 = .ok (.iload 12, 2) := by decide +kernel
theorem dX4_fill_107 : decode cX4_fill 107 = .ok (.aload_n 0, 1) := by decide +kernel
theorem dX4_fill_108 : decode cX4_fill 108 = .ok (.iload_n 2, 1) := by decide +kernel
theorem dX4_fill_109 : decode cX4_fill 109 = .ok (.iload 11, 2) := by decide +kernel
theorem dX4_fill_111 : decode cX4_fill 111 = .ok (.sipush 128, 3) := by decide +kernel
theorem dX4_fill_114 : decode cX4_fill 114 = .ok (.ior, 1) := by decide +kernel
theorem dX4_fill_115 : decode cX4_fill 115 = .ok (.iadd, 1) := by decide +kernel
theorem dX4_fill_116 : decode cX4_fill 116 = .ok (.iaload, 1) := by decide +kernel
theorem dX4_fill_117 : decode cX4_fill 117 = .ok (.iadd, 1) := by decide +kernel
theorem dX4_fill_118 : decode cX4_fill 118 = .ok (.istore 12, 2) := by decide +kernel
theorem dX4_fill_80 : decode cX4_fill 80 = .ok (.iload 9, 2) := by decide +kernel
theorem dX4_fill_82 : decode cX4_fill 82 = .ok (.iconst 2, 1) := by decide +kernel
theorem dX4_fill_83 : decode cX4_fill 83 = .ok (.iand, 1) := by decide +kernel
theorem dX4_fill_84 : decode cX4_fill 84 = .ok (.ifCond .ne 16, 3) := by decide +kernel
theorem dX4_fill_87 : decode cX4_fill 87 = .ok (.iload 12, 2) := by decide +kernel
theorem dX4_fill_89 : decode cX4_fill 89 = .ok (.aload_n 0, 1) := by decide +kernel
theorem dX4_fill_90 : decode cX4_fill 90 = .ok (.iload_n 2, 1) := by decide +kernel
theorem dX4_fill_91 : decode cX4_fill 91 = .ok (.iload 11, 2) := by decide +kernel
theorem dX4_fill_93 : decode cX4_fill 93 = .ok (.iconst 1, 1) := by decide +kernel
theorem dX4_fill_94 : decode cX4_fill 94 = .ok (.ior, 1) := by decide +kernel
theorem dX4_fill_95 : decode cX4_fill 95 = .ok (.iadd, 1) := by decide +kernel
theorem dX4_fill_96 : decode cX4_fill 96 = .ok (.iaload, 1) := by decide +kernel
theorem dX4_fill_97 : decode cX4_fill 97 = .ok (.iadd, 1) := by decide +kernel
theorem dX4_fill_98 : decode cX4_fill 98 = .ok (.istore 12, 2) := by decide +kernel
theorem dX4_fill_0 : decode cX4_fill 0 = .ok (.lload_n 3, 1) := by decide +kernel
theorem dX4_fill_1 : decode cX4_fill 1 = .ok (.iload 5, 2) := by decide +kernel
theorem dX4_fill_3 : decode cX4_fill 3 = .ok (.lushr, 1) := by decide +kernel
theorem dX4_fill_4 : decode cX4_fill 4 = .ok (.l2i, 1) := by decide +kernel
theorem dX4_fill_5 : decode cX4_fill 5 = .ok (.sipush 255, 3) := by decide +kernel
theorem dX4_fill_8 : decode cX4_fill 8 = .ok (.iand, 1) := by decide +kernel
theorem dX4_fill_9 : decode cX4_fill 9 = .ok (.istore 6, 2) := by decide +kernel
theorem dX4_fill_11 : decode cX4_fill 11 = .ok (.lload_n 3, 1) := by decide +kernel
theorem dX4_fill_12 : decode cX4_fill 12 = .ok (.iload 5, 2) := by decide +kernel
set_option maxRecDepth 20000 in
theorem ggX4_fill_X4_alongFits : GoodIn wsX4_fill wsX4_alongFits := goodIn_r _ [4, 5, 6, 7, 8] rfl (by decide +kernel)
set_option maxRecDepth 20000 in
theorem gX4_fill_X4_alongFits : GoodIn wsX4_fill (va_wsS RX4 30 yX4_alongFits wsX4_alongFits) := goodIn_app (goodIn_r _ [1, 2, 3] rfl (by decide +kernel)) ggX4_fill_X4_alongFits
theorem dX4_fill_14 : decode cX4_fill 14 = .ok (.invokestatic 30, 3) := by decide +kernel
theorem dX4_fill_17 : decode cX4_fill 17 = .ok (.istore 7, 2) := by decide +kernel
theorem dX4_fill_19 : decode cX4_fill 19 = .ok (.lload_n 3, 1) := by decide +kernel
theorem dX4_fill_20 : decode cX4_fill 20 = .ok (.iload 5, 2) := by decide +kernel
set_option maxRecDepth 20000 in
theorem ggX4_fill_X4_acrossFits : GoodIn wsX4_fill wsX4_acrossFits := goodIn_r _ [11, 5, 6, 7, 8] rfl (by decide +kernel)
set_option maxRecDepth 20000 in
theorem gX4_fill_X4_acrossFits : GoodIn wsX4_fill (va_wsS RX4 34 yX4_acrossFits wsX4_acrossFits) := goodIn_app (goodIn_r _ [9, 10, 3] rfl (by decide +kernel)) ggX4_fill_X4_acrossFits
theorem dX4_fill_22 : decode cX4_fill 22 = .ok (.invokestatic 34, 3) := by decide +kernel
theorem dX4_fill_25 : decode cX4_fill 25 = .ok (.istore 8, 2) := by decide +kernel
theorem dX4_fill_27 : decode cX4_fill 27 = .ok (.iload 6, 2) := by decide +kernel
theorem dX4_fill_29 : decode cX4_fill 29 = .ok (.istore 9, 2) := by decide +kernel
theorem dX4_fill_31 : decode cX4_fill 31 = .ok (.sipush 256, 3) := by decide +kernel
theorem dX4_fill_34 : decode cX4_fill 34 = .ok (.istore 10, 2) := by decide +kernel
set_option maxHeartbeats 4000000 in
set_option maxRecDepth 100000 in
theorem t_X4_fill_fw (l : Launch) (D : va_G) (cy : Nat → ClassId) (a : Nat → Nat) (sz : Nat) (J : Nat → Int64) (I : Nat → Int32) (O : Nat → Option Nat) (R : Nat → Nat → Int32) (RO : Nat → Nat → Option Nat) (b0 b1 b2 : Nat) (jf : Int64) (kn : Int32) (fw fp : Nat → Int32) (hkn : isB kn) (Y : va_W) (x1 : Nat) (x2 : Nat) (x3 : Int64) (x4 : Nat) (ht0 : x1 + 256 ≤ 16640) (hf0 : x2 + 256 ≤ 16640) (hdj : x1 + 256 ≤ x2 ∨ x2 + 256 ≤ x1) (hx4 : x4 < 64) : Met l yX4_fill wsX4_fill ({ frames := 2, cells := 0, slots := 0, locals := 44 }) (va_Pc [.ref b1, .int (nI x1), .int (nI x2), .long x3, .int (nI x4)] (PW D cy sz (CT cy a J I O R RO ([(b0, .inr (3, [.ref b1, .ref b2, .long jf, .int kn])), (b1, .inl (cy 0, 16640, .inl fw)), (b2, .inl (cy 0, 512, .inl fp))] ++ Y)))) (va_Qv (fun (u : TS) => ∃ (fw9 : Nat → Int32), ((flP fw fw9 x1 x2 (bfx x3) x4)) ∧ u = (J, I, O, R, RO, [(b0, .inr (3, [.ref b1, .ref b2, .long jf, .int kn])), (b1, .inl (cy 0, 16640, .inl fw9)), (b2, .inl (cy 0, 512, .inl fp))], Y)) (BW D (va_A (CT cy a J I O R RO ([(b0, .inr (3, [.ref b1, .ref b2, .long jf, .int kn])), (b1, .inl (cy 0, 16640, .inl fw)), (b2, .inl (cy 0, 512, .inl fp))] ++ Y)) sz) (CTu cy a)) (va_A (CT cy a J I O R RO ([(b0, .inr (3, [.ref b1, .ref b2, .long jf, .int kn])), (b1, .inl (cy 0, 16640, .inl fw)), (b2, .inl (cy 0, 512, .inl fp))] ++ Y)) sz)) 0 0 (va_A (CT cy a J I O R RO ([(b0, .inr (3, [.ref b1, .ref b2, .long jf, .int kn])), (b1, .inl (cy 0, 16640, .inl fw)), (b2, .inl (cy 0, 512, .inl fp))] ++ Y)) sz) := by
  refine Met.ofW (cc := cX4_fill) (maxL := 13) (ret := none) (by decide) rfl ?_
  intro p e s m args below meth c s₁ B hml hv
  obtain ⟨rfl, rfl, hP, hK, hN, hD0⟩ := hv
  have hx := B.exec
  have hb := B.bytes
  have hr := B.returns
  have hts := atoms_spec (ws := wsX4_fill) B.pre
  have hown : s.vm.findClass RX4 = some m.cls := findClass_of_methodNamed B.named
  have hlocks := B.notSynchronized
  have hD := hD0.self (sz := s.heap.size)
  generalize hAe : va_A (CT cy a J I O R RO ([(b0, .inr (3, [.ref b1, .ref b2, .long jf, .int kn])), (b1, .inl (cy 0, 16640, .inl fw)), (b2, .inl (cy 0, 512, .inl fp))] ++ Y)) s.heap.size = A at hD ⊢
  have hA : ∀ q : Nat, s.heap.size ≤ q → A q := fun q h => by rw [← hAe]; exact Or.inr h
  have hS : va_S A s.heap s.heap [] := va_S.rf
  have hl := lv_entry ([.ref b1, .int (nI x1), .int (nI x2), .long x3, .int (nI x4)]) (n := 13) (Nat.le_of_ble_eq_true rfl)
  rw [lg_entry_eq]
  generalize (lg_sl ([.ref b1, .int (nI x1), .int (nI x2), .long x3, .int (nI x4)]) ++ List.replicate (13 - (lg_sl ([.ref b1, .int (nI x1), .int (nI x2), .long x3, .int (nI x4)])).length) Slot.unset).toArray = ls at hl ⊢
  have hl : lv_has ls 13 [(0, .ref b1), (1, .int (nI x1)), (2, .int (nI x2)), (3, .long x3), (5, .int (nI x4))] := hl
  have lp36 : ∀ (n36 : Nat), ∀ (i : Nat) (mk : Nat) (v7_36 : Bool) (v8_36 : Bool) (fw_36 : Nat → Int32), (i ≤ 256) → (mk < 256) → (sub mk (wf (bfx x3) x4)) → (mk + 1 ≤ 256 - i) → (v7_36 = (decide (x4 % 8 < 7) && bfx x3 (x4 + 1))) → (v8_36 = (decide (x4 < 56) && bfx x3 (x4 + 8))) → (flI fw fw_36 x1 x2 (bfx x3) x4 mk) → (256 - i) < n36 → ∀ (H : Heap) (locs : List Loc), va_P D vwCl (CT cy a J I O R RO ([(b0, .inr (3, [.ref b1, .ref b2, .long jf, .int kn])), (b1, .inl (cy 0, 16640, .inl fw_36)), (b2, .inl (cy 0, 512, .inl fp))] ++ Y)) H → va_D A (CT cy a J I O R RO ([(b0, .inr (3, [.ref b1, .ref b2, .long jf, .int kn])), (b1, .inl (cy 0, 16640, .inl fw_36)), (b2, .inl (cy 0, 512, .inl fp))] ++ Y)) → va_S A s.heap H locs → ∀ (ls : Array Slot), lv_has ls 13 [(0, .ref b1), (1, .int (nI x1)), (2, .int (nI x2)), (6, .int (nI (wf (bfx x3) x4))), (7, .int (bI v7_36)), (8, .int (bI v8_36)), (9, .int (nI mk)), (10, .int (nI (256 - i)))] → W p l e (headSpec wsX4_fill ({ frames := 2, cells := 0, slots := 0, locals := 44 })).room s m ([.ref b1, .int (nI x1), .int (nI x2), .long x3, .int (nI x4)] : List Value).toArray below meth c H locs 0 0 (MQ below (va_Qv (fun (u : TS) => ∃ (fw9 : Nat → Int32), ((flP fw fw9 x1 x2 (bfx x3) x4)) ∧ u = (J, I, O, R, RO, [(b0, .inr (3, [.ref b1, .ref b2, .long jf, .int kn])), (b1, .inl (cy 0, 16640, .inl fw9)), (b2, .inl (cy 0, 512, .inl fp))], Y)) (BW D A (CTu cy a)) A) ([.ref b1, .int (nI x1), .int (nI x2), .long x3, .int (nI x4)] : List Value).toArray s 0 0 A) (F0 m 36 ls []) := by
    intro n36
    induction n36 with
    | zero => intro i mk v7_36 v8_36 fw_36 hi hmk hsm hcn hal hac hfi hn; exact absurd hn (Nat.not_lt_zero _)
    | succ n36 ih36 =>
      intro i mk v7_36 v8_36 fw_36 hi hmk hsm hcn hal hac hfi hn36 H locs hP hD hS ls hl
      have lp120 : ∀ (v12_120 : Int32) (fw_120 : Nat → Int32), (i < 256) → (flI fw fw_120 x1 x2 (bfx x3) x4 mk) → (v12_120 = vl (fun r => fw (x2 + r)) (bfx x3) x4 mk) → ∀ (H : Heap) (locs : List Loc), va_P D vwCl (CT cy a J I O R RO ([(b0, .inr (3, [.ref b1, .ref b2, .long jf, .int kn])), (b1, .inl (cy 0, 16640, .inl fw_120)), (b2, .inl (cy 0, 512, .inl fp))] ++ Y)) H → va_D A (CT cy a J I O R RO ([(b0, .inr (3, [.ref b1, .ref b2, .long jf, .int kn])), (b1, .inl (cy 0, 16640, .inl fw_120)), (b2, .inl (cy 0, 512, .inl fp))] ++ Y)) → va_S A s.heap H locs → ∀ (ls : Array Slot), lv_has ls 13 [(0, .ref b1), (1, .int (nI x1)), (2, .int (nI x2)), (6, .int (nI (wf (bfx x3) x4))), (7, .int (bI v7_36)), (8, .int (bI v8_36)), (9, .int (nI mk)), (10, .int (nI (256 - i))), (12, .int v12_120)] → W p l e (headSpec wsX4_fill ({ frames := 2, cells := 0, slots := 0, locals := 44 })).room s m ([.ref b1, .int (nI x1), .int (nI x2), .long x3, .int (nI x4)] : List Value).toArray below meth c H locs 0 0 (MQ below (va_Qv (fun (u : TS) => ∃ (fw9 : Nat → Int32), ((flP fw fw9 x1 x2 (bfx x3) x4)) ∧ u = (J, I, O, R, RO, [(b0, .inr (3, [.ref b1, .ref b2, .long jf, .int kn])), (b1, .inl (cy 0, 16640, .inl fw9)), (b2, .inl (cy 0, 512, .inl fp))], Y)) (BW D A (CTu cy a)) A) ([.ref b1, .int (nI x1), .int (nI x2), .long x3, .int (nI x4)] : List Value).toArray s 0 0 A) (F0 m 120 ls []) := by
        intro v12_120 fw_120 hlt_i hfi hv H locs hP hD hS ls hl
        refine lv_aload_n hx hb dX4_fill_120 rfl (lv_at hl 0 rfl) ?_
        refine lv_iload_n hx hb dX4_fill_121 rfl (lv_at hl 1 rfl) ?_
        refine lv_iload hx hb dX4_fill_122 (lv_at hl 6 rfl) ?_
        refine lv_iadd hx hb dX4_fill_124 ?_
        refine lv_iload hx hb dX4_fill_125 (lv_at hl 8 rfl) ?_
        refine va_iast hx hb hK hP hD hS 21 0 rfl rfl (ixf ht0 hmk (by decide)) dX4_fill_127 (fun H locs hP hD hS => ?_)
        have hP : va_P D vwCl (CT cy a J I O R RO ([(b0, .inr (3, [.ref b1, .ref b2, .long jf, .int kn])), (b1, .inl (cy 0, 16640, .inl (upd fw_120 ((nI x1) + (nI mk)).toNatClampNeg v12_120))), (b2, .inl (cy 0, 512, .inl fp))] ++ Y)) H := hP
        have hD : va_D A (CT cy a J I O R RO ([(b0, .inr (3, [.ref b1, .ref b2, .long jf, .int kn])), (b1, .inl (cy 0, 16640, .inl (upd fw_120 ((nI x1) + (nI mk)).toNatClampNeg v12_120))), (b2, .inl (cy 0, 512, .inl fp))] ++ Y)) := hD
        refine lv_iload hx hb dX4_fill_128 (lv_at hl 6 rfl) ?_
        refine lv_if_ne (tgt := 136) hx hb dX4_fill_130 (by decide) (fun c_1 => ?_) (fun c_1 => ?_)
        · refine lv_iload hx hb dX4_fill_136 (lv_at hl 6 rfl) ?_
          refine lv_iconst (v := 1) hx hb dX4_fill_138 (by decide) ?_
          refine lv_isub hx hb dX4_fill_139 ?_
          refine lv_iload hx hb dX4_fill_140 (lv_at hl 3 rfl) ?_
          refine lv_iand hx hb dX4_fill_142 ?_
          refine wtop_i (y := nI (mk - 1 &&& wf (bfx x3) x4)) (mk_nx hmk (wf_lt _ _) c_1) ?_
          refine lv_istore (lv' := [(9, .int (nI (mk - 1 &&& wf (bfx x3) x4))), (0, .ref b1), (1, .int (nI x1)), (2, .int (nI x2)), (6, .int (nI (wf (bfx x3) x4))), (7, .int (bI v7_36)), (8, .int (bI v8_36)), (10, .int (nI (256 - i))), (12, .int v12_120)]) hx hb dX4_fill_143 hl (by decide) rfl (fun ls hl => ?_)
          refine lv_iinc (v := nI (256 - (i + 1))) (lv' := [(10, .int (nI (256 - (i + 1)))), (9, .int (nI (mk - 1 &&& wf (bfx x3) x4))), (0, .ref b1), (1, .int (nI x1)), (2, .int (nI x2)), (6, .int (nI (wf (bfx x3) x4))), (7, .int (bI v7_36)), (8, .int (bI v8_36)), (12, .int v12_120)]) hx hb dX4_fill_145 hl (k := 7) rfl (fl_dec hlt_i) (by decide) rfl (fun ls hl => ?_)
          refine lv_goto (tgt := 36) hx hb dX4_fill_148 (by decide) ?_
          exact ih36 (i + 1) (mk - 1 &&& wf (bfx x3) x4) v7_36 v8_36 (upd fw_120 ((nI x1) + (nI mk)).toNatClampNeg v12_120) hlt_i (sub_lt (sub_and _ _) (wf_lt _ _)) (sub_and _ _) (mk_lt c_1 hcn) hal hac (fl_nx hfi hmk hsm ht0 (by decide) hv) (lt_dec hlt_i hn36) _ _ hP hD hS ls (lv_sub hl [2, 3, 4, 5, 6, 7, 1, 0] rfl)
        · refine lv_goto (tgt := 151) hx hb dX4_fill_133 (by decide) ?_
          exact wret_v hx hb hr hlocks (J, I, O, R, RO, [(b0, .inr (3, [.ref b1, .ref b2, .long jf, .int kn])), (b1, .inl (cy 0, 16640, .inl (upd fw_120 ((nI x1) + (nI mk)).toNatClampNeg v12_120))), (b2, .inl (cy 0, 512, .inl fp))], Y) ⟨(upd fw_120 ((nI x1) + (nI mk)).toNatClampNeg v12_120), (fl_end hfi hmk c_1 ht0 (by decide) hv), rfl⟩ hP hD hS dX4_fill_151
      refine lv_iload hx hb dX4_fill_36 (lv_at hl 7 rfl) ?_
      refine lv_if_le (tgt := 151) hx hb dX4_fill_38 (by decide) (fun c_2 => ?_) (fun c_2 => ?_)
      · exact wret_v hx hb hr hlocks (J, I, O, R, RO, [(b0, .inr (3, [.ref b1, .ref b2, .long jf, .int kn])), (b1, .inl (cy 0, 16640, .inl fw_36)), (b2, .inl (cy 0, 512, .inl fp))], Y) ⟨fw_36, (fl_no hi c_2 hcn).elim, rfl⟩ hP hD hS dX4_fill_151
      · have hlt_i := fl_lt hi c_2
        refine lv_iload hx hb dX4_fill_41 (lv_at hl 6 rfl) ?_
        refine lv_iconst (v := 1) hx hb dX4_fill_43 (by decide) ?_
        refine lv_ishr hx hb dX4_fill_44 ?_
        refine wtop_i (y := nI (mk / 2)) (pk_shrN (by omega) _ 1 (by decide)) ?_
        refine lv_istore (lv' := [(11, .int (nI (mk / 2))), (0, .ref b1), (1, .int (nI x1)), (2, .int (nI x2)), (6, .int (nI (wf (bfx x3) x4))), (7, .int (bI v7_36)), (8, .int (bI v8_36)), (9, .int (nI mk)), (10, .int (nI (256 - i)))]) hx hb dX4_fill_45 hl (by decide) rfl (fun ls hl => ?_)
        refine lv_iconst (v := 0) hx hb dX4_fill_47 (by decide) ?_
        refine lv_istore (lv' := [(12, .int 0), (11, .int (nI (mk / 2))), (0, .ref b1), (1, .int (nI x1)), (2, .int (nI x2)), (6, .int (nI (wf (bfx x3) x4))), (7, .int (bI v7_36)), (8, .int (bI v8_36)), (9, .int (nI mk)), (10, .int (nI (256 - i)))]) hx hb dX4_fill_48 hl (by decide) rfl (fun ls hl => ?_)
        refine lv_iload hx hb dX4_fill_50 (lv_at hl 5 rfl) ?_
        refine lv_iconst (v := 1) hx hb dX4_fill_52 (by decide) ?_
        refine lv_iand hx hb dX4_fill_53 ?_
        refine lv_if_eq (tgt := 64) hx hb dX4_fill_54 (by decide) (fun c_3 => ?_) (fun c_3 => ?_)
        · refine lv_aload_n hx hb dX4_fill_64 rfl (lv_at hl 2 rfl) ?_
          refine lv_iload_n hx hb dX4_fill_65 rfl (lv_at hl 4 rfl) ?_
          refine lv_iload hx hb dX4_fill_66 (lv_at hl 1 rfl) ?_
          refine lv_iadd hx hb dX4_fill_68 ?_
          refine va_iald hx hb hK hP 21 0 rfl rfl (ixf hf0 (by omega) (by decide)) dX4_fill_69 ?_
          refine lv_istore (lv' := [(12, .int (fw_36 ((nI x2) + (nI (mk / 2))).toNatClampNeg)), (11, .int (nI (mk / 2))), (0, .ref b1), (1, .int (nI x1)), (2, .int (nI x2)), (6, .int (nI (wf (bfx x3) x4))), (7, .int (bI v7_36)), (8, .int (bI v8_36)), (9, .int (nI mk)), (10, .int (nI (256 - i)))]) hx hb dX4_fill_70 hl (by decide) rfl (fun ls hl => ?_)
          refine lv_goto (tgt := 120) hx hb dX4_fill_72 (by decide) ?_
          exact lp120 (fw_36 ((nI x2) + (nI (mk / 2))).toNatClampNeg) fw_36 hlt_i hfi (vl_a hfi hdj hf0 (by decide) hmk (Or.inl (wdw_1 c_3)))  _ _ hP hD hS ls (lv_sub hl [2, 3, 4, 5, 6, 7, 8, 9, 0] rfl)
        · refine lv_iload hx hb dX4_fill_57 (lv_at hl 8 rfl) ?_
          refine lv_iconst (v := 1) hx hb dX4_fill_59 (by decide) ?_
          refine lv_iand hx hb dX4_fill_60 ?_
          refine lv_if_eq (tgt := 75) hx hb dX4_fill_61 (by decide) (fun c_4 => ?_) (fun c_4 => ?_)
          · refine lv_iload hx hb dX4_fill_75 (lv_at hl 6 rfl) ?_
            refine lv_if_eq (tgt := 100) hx hb dX4_fill_77 (by decide) (fun c_5 => ?_) (fun c_5 => ?_)
            · replace c_5 := bI_f c_5
              refine lv_iload hx hb dX4_fill_100 (lv_at hl 7 rfl) ?_
              refine lv_if_eq (tgt := 120) hx hb dX4_fill_102 (by decide) (fun c_6 => ?_) (fun c_6 => ?_)
              · replace c_6 := bI_f c_6
                exact lp120 (0 : Int32) fw_36 hlt_i hfi (vl_s0 (wdw_0 c_3) (mk_0 hmk c_4) (va_n1 hal c_5) (vc_n hac c_6))  _ _ hP hD hS ls (lv_sub hl [2, 3, 4, 5, 6, 7, 8, 9, 0] rfl)
              · replace c_6 := bI_t c_6
                refine lv_iload hx hb dX4_fill_105 (lv_at hl 0 rfl) ?_
                refine lv_aload_n hx hb dX4_fill_107 rfl (lv_at hl 2 rfl) ?_
                refine lv_iload_n hx hb dX4_fill_108 rfl (lv_at hl 4 rfl) ?_
                refine lv_iload hx hb dX4_fill_109 (lv_at hl 1 rfl) ?_
                refine lv_sipush (v := 128) hx hb dX4_fill_111 (by decide) ?_
                refine lv_ior hx hb dX4_fill_114 ?_
                refine wtop_i (y := nI (mk / 2 + 128)) (or128_t ⟨mk / 2, by omega⟩) ?_
                refine lv_iadd hx hb dX4_fill_115 ?_
                refine va_iald hx hb hK hP 21 0 rfl rfl (ixf hf0 (by omega) (by decide)) dX4_fill_116 ?_
                refine lv_iadd hx hb dX4_fill_117 ?_
                refine lv_istore (lv' := [(12, .int (0 + (fw_36 ((nI x2) + (nI (mk / 2 + 128))).toNatClampNeg))), (11, .int (nI (mk / 2))), (0, .ref b1), (1, .int (nI x1)), (2, .int (nI x2)), (6, .int (nI (wf (bfx x3) x4))), (7, .int (bI v7_36)), (8, .int (bI v8_36)), (9, .int (nI mk)), (10, .int (nI (256 - i)))]) hx hb dX4_fill_118 hl (by decide) rfl (fun ls hl => ?_)
                exact lp120 (0 + (fw_36 ((nI x2) + (nI (mk / 2 + 128))).toNatClampNeg)) fw_36 hlt_i hfi (vl_s (wdw_0 c_3) (mk_0 hmk c_4) (va_n1 hal c_5) (vc_y hfi hdj hf0 (by decide) hmk hac c_6))  _ _ hP hD hS ls (lv_sub hl [2, 3, 4, 5, 6, 7, 8, 9, 0] rfl)
            · replace c_5 := bI_t c_5
              refine lv_iload hx hb dX4_fill_80 (lv_at hl 8 rfl) ?_
              refine lv_iconst (v := 2) hx hb dX4_fill_82 (by decide) ?_
              refine lv_iand hx hb dX4_fill_83 ?_
              refine lv_if_ne (tgt := 100) hx hb dX4_fill_84 (by decide) (fun c_7 => ?_) (fun c_7 => ?_)
              · refine lv_iload hx hb dX4_fill_100 (lv_at hl 7 rfl) ?_
                refine lv_if_eq (tgt := 120) hx hb dX4_fill_102 (by decide) (fun c_8 => ?_) (fun c_8 => ?_)
                · replace c_8 := bI_f c_8
                  exact lp120 (0 : Int32) fw_36 hlt_i hfi (vl_s0 (wdw_0 c_3) (mk_0 hmk c_4) (va_n2 (mk2_1 ⟨mk, hmk⟩ c_7)) (vc_n hac c_8))  _ _ hP hD hS ls (lv_sub hl [2, 3, 4, 5, 6, 7, 8, 9, 0] rfl)
                · replace c_8 := bI_t c_8
                  refine lv_iload hx hb dX4_fill_105 (lv_at hl 0 rfl) ?_
                  refine lv_aload_n hx hb dX4_fill_107 rfl (lv_at hl 2 rfl) ?_
                  refine lv_iload_n hx hb dX4_fill_108 rfl (lv_at hl 4 rfl) ?_
                  refine lv_iload hx hb dX4_fill_109 (lv_at hl 1 rfl) ?_
                  refine lv_sipush (v := 128) hx hb dX4_fill_111 (by decide) ?_
                  refine lv_ior hx hb dX4_fill_114 ?_
                  refine wtop_i (y := nI (mk / 2 + 128)) (or128_t ⟨mk / 2, by omega⟩) ?_
                  refine lv_iadd hx hb dX4_fill_115 ?_
                  refine va_iald hx hb hK hP 21 0 rfl rfl (ixf hf0 (by omega) (by decide)) dX4_fill_116 ?_
                  refine lv_iadd hx hb dX4_fill_117 ?_
                  refine lv_istore (lv' := [(12, .int (0 + (fw_36 ((nI x2) + (nI (mk / 2 + 128))).toNatClampNeg))), (11, .int (nI (mk / 2))), (0, .ref b1), (1, .int (nI x1)), (2, .int (nI x2)), (6, .int (nI (wf (bfx x3) x4))), (7, .int (bI v7_36)), (8, .int (bI v8_36)), (9, .int (nI mk)), (10, .int (nI (256 - i)))]) hx hb dX4_fill_118 hl (by decide) rfl (fun ls hl => ?_)
                  exact lp120 (0 + (fw_36 ((nI x2) + (nI (mk / 2 + 128))).toNatClampNeg)) fw_36 hlt_i hfi (vl_s (wdw_0 c_3) (mk_0 hmk c_4) (va_n2 (mk2_1 ⟨mk, hmk⟩ c_7)) (vc_y hfi hdj hf0 (by decide) hmk hac c_8))  _ _ hP hD hS ls (lv_sub hl [2, 3, 4, 5, 6, 7, 8, 9, 0] rfl)
              · refine lv_iload hx hb dX4_fill_87 (lv_at hl 0 rfl) ?_
                refine lv_aload_n hx hb dX4_fill_89 rfl (lv_at hl 2 rfl) ?_
                refine lv_iload_n hx hb dX4_fill_90 rfl (lv_at hl 4 rfl) ?_
                refine lv_iload hx hb dX4_fill_91 (lv_at hl 1 rfl) ?_
                refine lv_iconst (v := 1) hx hb dX4_fill_93 (by decide) ?_
                refine lv_ior hx hb dX4_fill_94 ?_
                refine wtop_i (y := nI (mk / 2 / 2 * 2 + 1)) (or1_t ⟨mk / 2, by omega⟩) ?_
                refine lv_iadd hx hb dX4_fill_95 ?_
                refine va_iald hx hb hK hP 21 0 rfl rfl (ixf hf0 (by omega) (by decide)) dX4_fill_96 ?_
                refine lv_iadd hx hb dX4_fill_97 ?_
                refine lv_istore (lv' := [(12, .int (0 + (fw_36 ((nI x2) + (nI (mk / 2 / 2 * 2 + 1))).toNatClampNeg))), (11, .int (nI (mk / 2))), (0, .ref b1), (1, .int (nI x1)), (2, .int (nI x2)), (6, .int (nI (wf (bfx x3) x4))), (7, .int (bI v7_36)), (8, .int (bI v8_36)), (9, .int (nI mk)), (10, .int (nI (256 - i)))]) hx hb dX4_fill_98 hl (by decide) rfl (fun ls hl => ?_)
                refine lv_iload hx hb dX4_fill_100 (lv_at hl 7 rfl) ?_
                refine lv_if_eq (tgt := 120) hx hb dX4_fill_102 (by decide) (fun c_9 => ?_) (fun c_9 => ?_)
                · replace c_9 := bI_f c_9
                  exact lp120 (0 + (fw_36 ((nI x2) + (nI (mk / 2 / 2 * 2 + 1))).toNatClampNeg)) fw_36 hlt_i hfi (vl_s0 (wdw_0 c_3) (mk_0 hmk c_4) (va_y hfi hdj hf0 (by decide) hmk hal c_5 (mk2_0 ⟨mk, hmk⟩ c_7)) (vc_n hac c_9))  _ _ hP hD hS ls (lv_sub hl [2, 3, 4, 5, 6, 7, 8, 9, 0] rfl)
                · replace c_9 := bI_t c_9
                  refine lv_iload hx hb dX4_fill_105 (lv_at hl 0 rfl) ?_
                  refine lv_aload_n hx hb dX4_fill_107 rfl (lv_at hl 2 rfl) ?_
                  refine lv_iload_n hx hb dX4_fill_108 rfl (lv_at hl 4 rfl) ?_
                  refine lv_iload hx hb dX4_fill_109 (lv_at hl 1 rfl) ?_
                  refine lv_sipush (v := 128) hx hb dX4_fill_111 (by decide) ?_
                  refine lv_ior hx hb dX4_fill_114 ?_
                  refine wtop_i (y := nI (mk / 2 + 128)) (or128_t ⟨mk / 2, by omega⟩) ?_
                  refine lv_iadd hx hb dX4_fill_115 ?_
                  refine va_iald hx hb hK hP 21 0 rfl rfl (ixf hf0 (by omega) (by decide)) dX4_fill_116 ?_
                  refine lv_iadd hx hb dX4_fill_117 ?_
                  refine lv_istore (lv' := [(12, .int ((0 + (fw_36 ((nI x2) + (nI (mk / 2 / 2 * 2 + 1))).toNatClampNeg)) + (fw_36 ((nI x2) + (nI (mk / 2 + 128))).toNatClampNeg))), (11, .int (nI (mk / 2))), (0, .ref b1), (1, .int (nI x1)), (2, .int (nI x2)), (6, .int (nI (wf (bfx x3) x4))), (7, .int (bI v7_36)), (8, .int (bI v8_36)), (9, .int (nI mk)), (10, .int (nI (256 - i)))]) hx hb dX4_fill_118 hl (by decide) rfl (fun ls hl => ?_)
                  exact lp120 ((0 + (fw_36 ((nI x2) + (nI (mk / 2 / 2 * 2 + 1))).toNatClampNeg)) + (fw_36 ((nI x2) + (nI (mk / 2 + 128))).toNatClampNeg)) fw_36 hlt_i hfi (vl_s (wdw_0 c_3) (mk_0 hmk c_4) (va_y hfi hdj hf0 (by decide) hmk hal c_5 (mk2_0 ⟨mk, hmk⟩ c_7)) (vc_y hfi hdj hf0 (by decide) hmk hac c_9))  _ _ hP hD hS ls (lv_sub hl [2, 3, 4, 5, 6, 7, 8, 9, 0] rfl)
          · refine lv_aload_n hx hb dX4_fill_64 rfl (lv_at hl 2 rfl) ?_
            refine lv_iload_n hx hb dX4_fill_65 rfl (lv_at hl 4 rfl) ?_
            refine lv_iload hx hb dX4_fill_66 (lv_at hl 1 rfl) ?_
            refine lv_iadd hx hb dX4_fill_68 ?_
            refine va_iald hx hb hK hP 21 0 rfl rfl (ixf hf0 (by omega) (by decide)) dX4_fill_69 ?_
            refine lv_istore (lv' := [(12, .int (fw_36 ((nI x2) + (nI (mk / 2))).toNatClampNeg)), (11, .int (nI (mk / 2))), (0, .ref b1), (1, .int (nI x1)), (2, .int (nI x2)), (6, .int (nI (wf (bfx x3) x4))), (7, .int (bI v7_36)), (8, .int (bI v8_36)), (9, .int (nI mk)), (10, .int (nI (256 - i)))]) hx hb dX4_fill_70 hl (by decide) rfl (fun ls hl => ?_)
            refine lv_goto (tgt := 120) hx hb dX4_fill_72 (by decide) ?_
            exact lp120 (fw_36 ((nI x2) + (nI (mk / 2))).toNatClampNeg) fw_36 hlt_i hfi (vl_a hfi hdj hf0 (by decide) hmk (Or.inr (mk_1 hmk c_4)))  _ _ hP hD hS ls (lv_sub hl [2, 3, 4, 5, 6, 7, 8, 9, 0] rfl)
  refine lv_lload_n hx hb dX4_fill_0 rfl (lv_at hl 3 rfl) ?_
  refine lv_iload hx hb dX4_fill_1 (lv_at hl 4 rfl) ?_
  refine lv_lushr (v := (x3.toUInt64 >>> ((nI x4 : Int32).toInt64.toUInt64 &&& Int64.toUInt64 63)).toInt64) hx hb dX4_fill_3 rfl ?_
  refine lv_l2i (v := ((x3.toUInt64 >>> ((nI x4 : Int32).toInt64.toUInt64 &&& Int64.toUInt64 63)).toInt64 : Int64).toInt32) hx hb dX4_fill_4 rfl ?_
  refine lv_sipush (v := 255) hx hb dX4_fill_5 (by decide) ?_
  refine lv_iand hx hb dX4_fill_8 ?_
  refine wtop_i (y := nI (wf (bfx x3) x4)) (win_eq x3 hx4) ?_
  refine lv_istore (lv' := [(6, .int (nI (wf (bfx x3) x4))), (0, .ref b1), (1, .int (nI x1)), (2, .int (nI x2)), (3, .long x3), (5, .int (nI x4))]) hx hb dX4_fill_9 hl (by decide) rfl (fun ls hl => ?_)
  refine lv_lload_n hx hb dX4_fill_11 rfl (lv_at hl 4 rfl) ?_
  refine lv_iload hx hb dX4_fill_12 (lv_at hl 5 rfl) ?_
  refine kS_i (As := [.long x3, .int (nI x4)]) (rest := []) ⟨hx, hb, hml, hown, hts⟩ (c_X4_alongFits l x3 (nI x4)) (va_cwS 2 hts gX4_fill_X4_alongFits rfl rfl rfl (by decide +kernel) ⟨Nat.le_of_ble_eq_true rfl, Nat.le_of_ble_eq_true rfl⟩) rfl hl.1 rfl (Nat.le_of_ble_eq_true rfl) dX4_fill_14 ⟨Nat.le_of_ble_eq_true rfl, Nat.le_of_ble_eq_true rfl⟩ ?_
  refine lv_istore (lv' := [(7, .int (bI (g_alongFits x3 (nI x4)))), (6, .int (nI (wf (bfx x3) x4))), (0, .ref b1), (1, .int (nI x1)), (2, .int (nI x2)), (3, .long x3), (5, .int (nI x4))]) hx hb dX4_fill_17 hl (by decide) rfl (fun ls hl => ?_)
  refine lv_lload_n hx hb dX4_fill_19 rfl (lv_at hl 5 rfl) ?_
  refine lv_iload hx hb dX4_fill_20 (lv_at hl 6 rfl) ?_
  refine kS_i (As := [.long x3, .int (nI x4)]) (rest := []) ⟨hx, hb, hml, hown, hts⟩ (c_X4_acrossFits l x3 (nI x4)) (va_cwS 2 hts gX4_fill_X4_acrossFits rfl rfl rfl (by decide +kernel) ⟨Nat.le_of_ble_eq_true rfl, Nat.le_of_ble_eq_true rfl⟩) rfl hl.1 rfl (Nat.le_of_ble_eq_true rfl) dX4_fill_22 ⟨Nat.le_of_ble_eq_true rfl, Nat.le_of_ble_eq_true rfl⟩ ?_
  refine lv_istore (lv' := [(8, .int (bI (g_acrossFits x3 (nI x4)))), (7, .int (bI (g_alongFits x3 (nI x4)))), (6, .int (nI (wf (bfx x3) x4))), (0, .ref b1), (1, .int (nI x1)), (2, .int (nI x2)), (3, .long x3), (5, .int (nI x4))]) hx hb dX4_fill_25 hl (by decide) rfl (fun ls hl => ?_)
  refine lv_iload hx hb dX4_fill_27 (lv_at hl 2 rfl) ?_
  refine lv_istore (lv' := [(9, .int (nI (wf (bfx x3) x4))), (8, .int (bI (g_acrossFits x3 (nI x4)))), (7, .int (bI (g_alongFits x3 (nI x4)))), (6, .int (nI (wf (bfx x3) x4))), (0, .ref b1), (1, .int (nI x1)), (2, .int (nI x2)), (3, .long x3), (5, .int (nI x4))]) hx hb dX4_fill_29 hl (by decide) rfl (fun ls hl => ?_)
  refine lv_sipush (v := 256) hx hb dX4_fill_31 (by decide) ?_
  refine lv_istore (lv' := [(10, .int 256), (9, .int (nI (wf (bfx x3) x4))), (8, .int (bI (g_acrossFits x3 (nI x4)))), (7, .int (bI (g_alongFits x3 (nI x4)))), (6, .int (nI (wf (bfx x3) x4))), (0, .ref b1), (1, .int (nI x1)), (2, .int (nI x2)), (3, .long x3), (5, .int (nI x4))]) hx hb dX4_fill_34 hl (by decide) rfl (fun ls hl => ?_)
  exact lp36 _ 0 (wf (bfx x3) x4) (g_alongFits x3 (nI x4)) (g_acrossFits x3 (nI x4)) fw (Nat.zero_le _) (wf_lt _ _) (sub_self _) (wf_lt _ _) (al_eq hx4) (ac_eq hx4) fl_0 (Nat.lt_succ_self _) _ _ hP hD hS ls (lv_sub hl [5, 6, 7, 4, 3, 2, 1, 0] rfl)
set_option maxHeartbeats 4000000 in
set_option maxRecDepth 100000 in
theorem t_X4_fill_fp (l : Launch) (D : va_G) (cy : Nat → ClassId) (a : Nat → Nat) (sz : Nat) (J : Nat → Int64) (I : Nat → Int32) (O : Nat → Option Nat) (R : Nat → Nat → Int32) (RO : Nat → Nat → Option Nat) (b0 b1 b2 : Nat) (jf : Int64) (kn : Int32) (fw fp : Nat → Int32) (hkn : isB kn) (Y : va_W) (x1 : Nat) (x2 : Nat) (x3 : Int64) (x4 : Nat) (ht0 : x1 + 256 ≤ 512) (hf0 : x2 + 256 ≤ 512) (hdj : x1 + 256 ≤ x2 ∨ x2 + 256 ≤ x1) (hx4 : x4 < 64) : Met l yX4_fill wsX4_fill ({ frames := 2, cells := 0, slots := 0, locals := 44 }) (va_Pc [.ref b2, .int (nI x1), .int (nI x2), .long x3, .int (nI x4)] (PW D cy sz (CT cy a J I O R RO ([(b0, .inr (3, [.ref b1, .ref b2, .long jf, .int kn])), (b1, .inl (cy 0, 16640, .inl fw)), (b2, .inl (cy 0, 512, .inl fp))] ++ Y)))) (va_Qv (fun (u : TS) => ∃ (fp9 : Nat → Int32), ((flP fp fp9 x1 x2 (bfx x3) x4)) ∧ u = (J, I, O, R, RO, [(b0, .inr (3, [.ref b1, .ref b2, .long jf, .int kn])), (b1, .inl (cy 0, 16640, .inl fw)), (b2, .inl (cy 0, 512, .inl fp9))], Y)) (BW D (va_A (CT cy a J I O R RO ([(b0, .inr (3, [.ref b1, .ref b2, .long jf, .int kn])), (b1, .inl (cy 0, 16640, .inl fw)), (b2, .inl (cy 0, 512, .inl fp))] ++ Y)) sz) (CTu cy a)) (va_A (CT cy a J I O R RO ([(b0, .inr (3, [.ref b1, .ref b2, .long jf, .int kn])), (b1, .inl (cy 0, 16640, .inl fw)), (b2, .inl (cy 0, 512, .inl fp))] ++ Y)) sz)) 0 0 (va_A (CT cy a J I O R RO ([(b0, .inr (3, [.ref b1, .ref b2, .long jf, .int kn])), (b1, .inl (cy 0, 16640, .inl fw)), (b2, .inl (cy 0, 512, .inl fp))] ++ Y)) sz) := by
  refine Met.ofW (cc := cX4_fill) (maxL := 13) (ret := none) (by decide) rfl ?_
  intro p e s m args below meth c s₁ B hml hv
  obtain ⟨rfl, rfl, hP, hK, hN, hD0⟩ := hv
  have hx := B.exec
  have hb := B.bytes
  have hr := B.returns
  have hts := atoms_spec (ws := wsX4_fill) B.pre
  have hown : s.vm.findClass RX4 = some m.cls := findClass_of_methodNamed B.named
  have hlocks := B.notSynchronized
  have hD := hD0.self (sz := s.heap.size)
  generalize hAe : va_A (CT cy a J I O R RO ([(b0, .inr (3, [.ref b1, .ref b2, .long jf, .int kn])), (b1, .inl (cy 0, 16640, .inl fw)), (b2, .inl (cy 0, 512, .inl fp))] ++ Y)) s.heap.size = A at hD ⊢
  have hA : ∀ q : Nat, s.heap.size ≤ q → A q := fun q h => by rw [← hAe]; exact Or.inr h
  have hS : va_S A s.heap s.heap [] := va_S.rf
  have hl := lv_entry ([.ref b2, .int (nI x1), .int (nI x2), .long x3, .int (nI x4)]) (n := 13) (Nat.le_of_ble_eq_true rfl)
  rw [lg_entry_eq]
  generalize (lg_sl ([.ref b2, .int (nI x1), .int (nI x2), .long x3, .int (nI x4)]) ++ List.replicate (13 - (lg_sl ([.ref b2, .int (nI x1), .int (nI x2), .long x3, .int (nI x4)])).length) Slot.unset).toArray = ls at hl ⊢
  have hl : lv_has ls 13 [(0, .ref b2), (1, .int (nI x1)), (2, .int (nI x2)), (3, .long x3), (5, .int (nI x4))] := hl
  have lp36 : ∀ (n36 : Nat), ∀ (i : Nat) (mk : Nat) (v7_36 : Bool) (v8_36 : Bool) (fp_36 : Nat → Int32), (i ≤ 256) → (mk < 256) → (sub mk (wf (bfx x3) x4)) → (mk + 1 ≤ 256 - i) → (v7_36 = (decide (x4 % 8 < 7) && bfx x3 (x4 + 1))) → (v8_36 = (decide (x4 < 56) && bfx x3 (x4 + 8))) → (flI fp fp_36 x1 x2 (bfx x3) x4 mk) → (256 - i) < n36 → ∀ (H : Heap) (locs : List Loc), va_P D vwCl (CT cy a J I O R RO ([(b0, .inr (3, [.ref b1, .ref b2, .long jf, .int kn])), (b1, .inl (cy 0, 16640, .inl fw)), (b2, .inl (cy 0, 512, .inl fp_36))] ++ Y)) H → va_D A (CT cy a J I O R RO ([(b0, .inr (3, [.ref b1, .ref b2, .long jf, .int kn])), (b1, .inl (cy 0, 16640, .inl fw)), (b2, .inl (cy 0, 512, .inl fp_36))] ++ Y)) → va_S A s.heap H locs → ∀ (ls : Array Slot), lv_has ls 13 [(0, .ref b2), (1, .int (nI x1)), (2, .int (nI x2)), (6, .int (nI (wf (bfx x3) x4))), (7, .int (bI v7_36)), (8, .int (bI v8_36)), (9, .int (nI mk)), (10, .int (nI (256 - i)))] → W p l e (headSpec wsX4_fill ({ frames := 2, cells := 0, slots := 0, locals := 44 })).room s m ([.ref b2, .int (nI x1), .int (nI x2), .long x3, .int (nI x4)] : List Value).toArray below meth c H locs 0 0 (MQ below (va_Qv (fun (u : TS) => ∃ (fp9 : Nat → Int32), ((flP fp fp9 x1 x2 (bfx x3) x4)) ∧ u = (J, I, O, R, RO, [(b0, .inr (3, [.ref b1, .ref b2, .long jf, .int kn])), (b1, .inl (cy 0, 16640, .inl fw)), (b2, .inl (cy 0, 512, .inl fp9))], Y)) (BW D A (CTu cy a)) A) ([.ref b2, .int (nI x1), .int (nI x2), .long x3, .int (nI x4)] : List Value).toArray s 0 0 A) (F0 m 36 ls []) := by
    intro n36
    induction n36 with
    | zero => intro i mk v7_36 v8_36 fp_36 hi hmk hsm hcn hal hac hfi hn; exact absurd hn (Nat.not_lt_zero _)
    | succ n36 ih36 =>
      intro i mk v7_36 v8_36 fp_36 hi hmk hsm hcn hal hac hfi hn36 H locs hP hD hS ls hl
      have lp120 : ∀ (v12_120 : Int32) (fp_120 : Nat → Int32), (i < 256) → (flI fp fp_120 x1 x2 (bfx x3) x4 mk) → (v12_120 = vl (fun r => fp (x2 + r)) (bfx x3) x4 mk) → ∀ (H : Heap) (locs : List Loc), va_P D vwCl (CT cy a J I O R RO ([(b0, .inr (3, [.ref b1, .ref b2, .long jf, .int kn])), (b1, .inl (cy 0, 16640, .inl fw)), (b2, .inl (cy 0, 512, .inl fp_120))] ++ Y)) H → va_D A (CT cy a J I O R RO ([(b0, .inr (3, [.ref b1, .ref b2, .long jf, .int kn])), (b1, .inl (cy 0, 16640, .inl fw)), (b2, .inl (cy 0, 512, .inl fp_120))] ++ Y)) → va_S A s.heap H locs → ∀ (ls : Array Slot), lv_has ls 13 [(0, .ref b2), (1, .int (nI x1)), (2, .int (nI x2)), (6, .int (nI (wf (bfx x3) x4))), (7, .int (bI v7_36)), (8, .int (bI v8_36)), (9, .int (nI mk)), (10, .int (nI (256 - i))), (12, .int v12_120)] → W p l e (headSpec wsX4_fill ({ frames := 2, cells := 0, slots := 0, locals := 44 })).room s m ([.ref b2, .int (nI x1), .int (nI x2), .long x3, .int (nI x4)] : List Value).toArray below meth c H locs 0 0 (MQ below (va_Qv (fun (u : TS) => ∃ (fp9 : Nat → Int32), ((flP fp fp9 x1 x2 (bfx x3) x4)) ∧ u = (J, I, O, R, RO, [(b0, .inr (3, [.ref b1, .ref b2, .long jf, .int kn])), (b1, .inl (cy 0, 16640, .inl fw)), (b2, .inl (cy 0, 512, .inl fp9))], Y)) (BW D A (CTu cy a)) A) ([.ref b2, .int (nI x1), .int (nI x2), .long x3, .int (nI x4)] : List Value).toArray s 0 0 A) (F0 m 120 ls []) := by
        intro v12_120 fp_120 hlt_i hfi hv H locs hP hD hS ls hl
        refine lv_aload_n hx hb dX4_fill_120 rfl (lv_at hl 0 rfl) ?_
        refine lv_iload_n hx hb dX4_fill_121 rfl (lv_at hl 1 rfl) ?_
        refine lv_iload hx hb dX4_fill_122 (lv_at hl 6 rfl) ?_
        refine lv_iadd hx hb dX4_fill_124 ?_
        refine lv_iload hx hb dX4_fill_125 (lv_at hl 8 rfl) ?_
        refine va_iast hx hb hK hP hD hS 22 0 rfl rfl (ixf ht0 hmk (by decide)) dX4_fill_127 (fun H locs hP hD hS => ?_)
        have hP : va_P D vwCl (CT cy a J I O R RO ([(b0, .inr (3, [.ref b1, .ref b2, .long jf, .int kn])), (b1, .inl (cy 0, 16640, .inl fw)), (b2, .inl (cy 0, 512, .inl (upd fp_120 ((nI x1) + (nI mk)).toNatClampNeg v12_120)))] ++ Y)) H := hP
        have hD : va_D A (CT cy a J I O R RO ([(b0, .inr (3, [.ref b1, .ref b2, .long jf, .int kn])), (b1, .inl (cy 0, 16640, .inl fw)), (b2, .inl (cy 0, 512, .inl (upd fp_120 ((nI x1) + (nI mk)).toNatClampNeg v12_120)))] ++ Y)) := hD
        refine lv_iload hx hb dX4_fill_128 (lv_at hl 6 rfl) ?_
        refine lv_if_ne (tgt := 136) hx hb dX4_fill_130 (by decide) (fun c_1 => ?_) (fun c_1 => ?_)
        · refine lv_iload hx hb dX4_fill_136 (lv_at hl 6 rfl) ?_
          refine lv_iconst (v := 1) hx hb dX4_fill_138 (by decide) ?_
          refine lv_isub hx hb dX4_fill_139 ?_
          refine lv_iload hx hb dX4_fill_140 (lv_at hl 3 rfl) ?_
          refine lv_iand hx hb dX4_fill_142 ?_
          refine wtop_i (y := nI (mk - 1 &&& wf (bfx x3) x4)) (mk_nx hmk (wf_lt _ _) c_1) ?_
          refine lv_istore (lv' := [(9, .int (nI (mk - 1 &&& wf (bfx x3) x4))), (0, .ref b2), (1, .int (nI x1)), (2, .int (nI x2)), (6, .int (nI (wf (bfx x3) x4))), (7, .int (bI v7_36)), (8, .int (bI v8_36)), (10, .int (nI (256 - i))), (12, .int v12_120)]) hx hb dX4_fill_143 hl (by decide) rfl (fun ls hl => ?_)
          refine lv_iinc (v := nI (256 - (i + 1))) (lv' := [(10, .int (nI (256 - (i + 1)))), (9, .int (nI (mk - 1 &&& wf (bfx x3) x4))), (0, .ref b2), (1, .int (nI x1)), (2, .int (nI x2)), (6, .int (nI (wf (bfx x3) x4))), (7, .int (bI v7_36)), (8, .int (bI v8_36)), (12, .int v12_120)]) hx hb dX4_fill_145 hl (k := 7) rfl (fl_dec hlt_i) (by decide) rfl (fun ls hl => ?_)
          refine lv_goto (tgt := 36) hx hb dX4_fill_148 (by decide) ?_
          exact ih36 (i + 1) (mk - 1 &&& wf (bfx x3) x4) v7_36 v8_36 (upd fp_120 ((nI x1) + (nI mk)).toNatClampNeg v12_120) hlt_i (sub_lt (sub_and _ _) (wf_lt _ _)) (sub_and _ _) (mk_lt c_1 hcn) hal hac (fl_nx hfi hmk hsm ht0 (by decide) hv) (lt_dec hlt_i hn36) _ _ hP hD hS ls (lv_sub hl [2, 3, 4, 5, 6, 7, 1, 0] rfl)
        · refine lv_goto (tgt := 151) hx hb dX4_fill_133 (by decide) ?_
          exact wret_v hx hb hr hlocks (J, I, O, R, RO, [(b0, .inr (3, [.ref b1, .ref b2, .long jf, .int kn])), (b1, .inl (cy 0, 16640, .inl fw)), (b2, .inl (cy 0, 512, .inl (upd fp_120 ((nI x1) + (nI mk)).toNatClampNeg v12_120)))], Y) ⟨(upd fp_120 ((nI x1) + (nI mk)).toNatClampNeg v12_120), (fl_end hfi hmk c_1 ht0 (by decide) hv), rfl⟩ hP hD hS dX4_fill_151
      refine lv_iload hx hb dX4_fill_36 (lv_at hl 7 rfl) ?_
      refine lv_if_le (tgt := 151) hx hb dX4_fill_38 (by decide) (fun c_2 => ?_) (fun c_2 => ?_)
      · exact wret_v hx hb hr hlocks (J, I, O, R, RO, [(b0, .inr (3, [.ref b1, .ref b2, .long jf, .int kn])), (b1, .inl (cy 0, 16640, .inl fw)), (b2, .inl (cy 0, 512, .inl fp_36))], Y) ⟨fp_36, (fl_no hi c_2 hcn).elim, rfl⟩ hP hD hS dX4_fill_151
      · have hlt_i := fl_lt hi c_2
        refine lv_iload hx hb dX4_fill_41 (lv_at hl 6 rfl) ?_
        refine lv_iconst (v := 1) hx hb dX4_fill_43 (by decide) ?_
        refine lv_ishr hx hb dX4_fill_44 ?_
        refine wtop_i (y := nI (mk / 2)) (pk_shrN (by omega) _ 1 (by decide)) ?_
        refine lv_istore (lv' := [(11, .int (nI (mk / 2))), (0, .ref b2), (1, .int (nI x1)), (2, .int (nI x2)), (6, .int (nI (wf (bfx x3) x4))), (7, .int (bI v7_36)), (8, .int (bI v8_36)), (9, .int (nI mk)), (10, .int (nI (256 - i)))]) hx hb dX4_fill_45 hl (by decide) rfl (fun ls hl => ?_)
        refine lv_iconst (v := 0) hx hb dX4_fill_47 (by decide) ?_
        refine lv_istore (lv' := [(12, .int 0), (11, .int (nI (mk / 2))), (0, .ref b2), (1, .int (nI x1)), (2, .int (nI x2)), (6, .int (nI (wf (bfx x3) x4))), (7, .int (bI v7_36)), (8, .int (bI v8_36)), (9, .int (nI mk)), (10, .int (nI (256 - i)))]) hx hb dX4_fill_48 hl (by decide) rfl (fun ls hl => ?_)
        refine lv_iload hx hb dX4_fill_50 (lv_at hl 5 rfl) ?_
        refine lv_iconst (v := 1) hx hb dX4_fill_52 (by decide) ?_
        refine lv_iand hx hb dX4_fill_53 ?_
        refine lv_if_eq (tgt := 64) hx hb dX4_fill_54 (by decide) (fun c_3 => ?_) (fun c_3 => ?_)
        · refine lv_aload_n hx hb dX4_fill_64 rfl (lv_at hl 2 rfl) ?_
          refine lv_iload_n hx hb dX4_fill_65 rfl (lv_at hl 4 rfl) ?_
          refine lv_iload hx hb dX4_fill_66 (lv_at hl 1 rfl) ?_
          refine lv_iadd hx hb dX4_fill_68 ?_
          refine va_iald hx hb hK hP 22 0 rfl rfl (ixf hf0 (by omega) (by decide)) dX4_fill_69 ?_
          refine lv_istore (lv' := [(12, .int (fp_36 ((nI x2) + (nI (mk / 2))).toNatClampNeg)), (11, .int (nI (mk / 2))), (0, .ref b2), (1, .int (nI x1)), (2, .int (nI x2)), (6, .int (nI (wf (bfx x3) x4))), (7, .int (bI v7_36)), (8, .int (bI v8_36)), (9, .int (nI mk)), (10, .int (nI (256 - i)))]) hx hb dX4_fill_70 hl (by decide) rfl (fun ls hl => ?_)
          refine lv_goto (tgt := 120) hx hb dX4_fill_72 (by decide) ?_
          exact lp120 (fp_36 ((nI x2) + (nI (mk / 2))).toNatClampNeg) fp_36 hlt_i hfi (vl_a hfi hdj hf0 (by decide) hmk (Or.inl (wdw_1 c_3)))  _ _ hP hD hS ls (lv_sub hl [2, 3, 4, 5, 6, 7, 8, 9, 0] rfl)
        · refine lv_iload hx hb dX4_fill_57 (lv_at hl 8 rfl) ?_
          refine lv_iconst (v := 1) hx hb dX4_fill_59 (by decide) ?_
          refine lv_iand hx hb dX4_fill_60 ?_
          refine lv_if_eq (tgt := 75) hx hb dX4_fill_61 (by decide) (fun c_4 => ?_) (fun c_4 => ?_)
          · refine lv_iload hx hb dX4_fill_75 (lv_at hl 6 rfl) ?_
            refine lv_if_eq (tgt := 100) hx hb dX4_fill_77 (by decide) (fun c_5 => ?_) (fun c_5 => ?_)
            · replace c_5 := bI_f c_5
              refine lv_iload hx hb dX4_fill_100 (lv_at hl 7 rfl) ?_
              refine lv_if_eq (tgt := 120) hx hb dX4_fill_102 (by decide) (fun c_6 => ?_) (fun c_6 => ?_)
              · replace c_6 := bI_f c_6
                exact lp120 (0 : Int32) fp_36 hlt_i hfi (vl_s0 (wdw_0 c_3) (mk_0 hmk c_4) (va_n1 hal c_5) (vc_n hac c_6))  _ _ hP hD hS ls (lv_sub hl [2, 3, 4, 5, 6, 7, 8, 9, 0] rfl)
              · replace c_6 := bI_t c_6
                refine lv_iload hx hb dX4_fill_105 (lv_at hl 0 rfl) ?_
                refine lv_aload_n hx hb dX4_fill_107 rfl (lv_at hl 2 rfl) ?_
                refine lv_iload_n hx hb dX4_fill_108 rfl (lv_at hl 4 rfl) ?_
                refine lv_iload hx hb dX4_fill_109 (lv_at hl 1 rfl) ?_
                refine lv_sipush (v := 128) hx hb dX4_fill_111 (by decide) ?_
                refine lv_ior hx hb dX4_fill_114 ?_
                refine wtop_i (y := nI (mk / 2 + 128)) (or128_t ⟨mk / 2, by omega⟩) ?_
                refine lv_iadd hx hb dX4_fill_115 ?_
                refine va_iald hx hb hK hP 22 0 rfl rfl (ixf hf0 (by omega) (by decide)) dX4_fill_116 ?_
                refine lv_iadd hx hb dX4_fill_117 ?_
                refine lv_istore (lv' := [(12, .int (0 + (fp_36 ((nI x2) + (nI (mk / 2 + 128))).toNatClampNeg))), (11, .int (nI (mk / 2))), (0, .ref b2), (1, .int (nI x1)), (2, .int (nI x2)), (6, .int (nI (wf (bfx x3) x4))), (7, .int (bI v7_36)), (8, .int (bI v8_36)), (9, .int (nI mk)), (10, .int (nI (256 - i)))]) hx hb dX4_fill_118 hl (by decide) rfl (fun ls hl => ?_)
                exact lp120 (0 + (fp_36 ((nI x2) + (nI (mk / 2 + 128))).toNatClampNeg)) fp_36 hlt_i hfi (vl_s (wdw_0 c_3) (mk_0 hmk c_4) (va_n1 hal c_5) (vc_y hfi hdj hf0 (by decide) hmk hac c_6))  _ _ hP hD hS ls (lv_sub hl [2, 3, 4, 5, 6, 7, 8, 9, 0] rfl)
            · replace c_5 := bI_t c_5
              refine lv_iload hx hb dX4_fill_80 (lv_at hl 8 rfl) ?_
              refine lv_iconst (v := 2) hx hb dX4_fill_82 (by decide) ?_
              refine lv_iand hx hb dX4_fill_83 ?_
              refine lv_if_ne (tgt := 100) hx hb dX4_fill_84 (by decide) (fun c_7 => ?_) (fun c_7 => ?_)
              · refine lv_iload hx hb dX4_fill_100 (lv_at hl 7 rfl) ?_
                refine lv_if_eq (tgt := 120) hx hb dX4_fill_102 (by decide) (fun c_8 => ?_) (fun c_8 => ?_)
                · replace c_8 := bI_f c_8
                  exact lp120 (0 : Int32) fp_36 hlt_i hfi (vl_s0 (wdw_0 c_3) (mk_0 hmk c_4) (va_n2 (mk2_1 ⟨mk, hmk⟩ c_7)) (vc_n hac c_8))  _ _ hP hD hS ls (lv_sub hl [2, 3, 4, 5, 6, 7, 8, 9, 0] rfl)
                · replace c_8 := bI_t c_8
                  refine lv_iload hx hb dX4_fill_105 (lv_at hl 0 rfl) ?_
                  refine lv_aload_n hx hb dX4_fill_107 rfl (lv_at hl 2 rfl) ?_
                  refine lv_iload_n hx hb dX4_fill_108 rfl (lv_at hl 4 rfl) ?_
                  refine lv_iload hx hb dX4_fill_109 (lv_at hl 1 rfl) ?_
                  refine lv_sipush (v := 128) hx hb dX4_fill_111 (by decide) ?_
                  refine lv_ior hx hb dX4_fill_114 ?_
                  refine wtop_i (y := nI (mk / 2 + 128)) (or128_t ⟨mk / 2, by omega⟩) ?_
                  refine lv_iadd hx hb dX4_fill_115 ?_
                  refine va_iald hx hb hK hP 22 0 rfl rfl (ixf hf0 (by omega) (by decide)) dX4_fill_116 ?_
                  refine lv_iadd hx hb dX4_fill_117 ?_
                  refine lv_istore (lv' := [(12, .int (0 + (fp_36 ((nI x2) + (nI (mk / 2 + 128))).toNatClampNeg))), (11, .int (nI (mk / 2))), (0, .ref b2), (1, .int (nI x1)), (2, .int (nI x2)), (6, .int (nI (wf (bfx x3) x4))), (7, .int (bI v7_36)), (8, .int (bI v8_36)), (9, .int (nI mk)), (10, .int (nI (256 - i)))]) hx hb dX4_fill_118 hl (by decide) rfl (fun ls hl => ?_)
                  exact lp120 (0 + (fp_36 ((nI x2) + (nI (mk / 2 + 128))).toNatClampNeg)) fp_36 hlt_i hfi (vl_s (wdw_0 c_3) (mk_0 hmk c_4) (va_n2 (mk2_1 ⟨mk, hmk⟩ c_7)) (vc_y hfi hdj hf0 (by decide) hmk hac c_8))  _ _ hP hD hS ls (lv_sub hl [2, 3, 4, 5, 6, 7, 8, 9, 0] rfl)
              · refine lv_iload hx hb dX4_fill_87 (lv_at hl 0 rfl) ?_
                refine lv_aload_n hx hb dX4_fill_89 rfl (lv_at hl 2 rfl) ?_
                refine lv_iload_n hx hb dX4_fill_90 rfl (lv_at hl 4 rfl) ?_
                refine lv_iload hx hb dX4_fill_91 (lv_at hl 1 rfl) ?_
                refine lv_iconst (v := 1) hx hb dX4_fill_93 (by decide) ?_
                refine lv_ior hx hb dX4_fill_94 ?_
                refine wtop_i (y := nI (mk / 2 / 2 * 2 + 1)) (or1_t ⟨mk / 2, by omega⟩) ?_
                refine lv_iadd hx hb dX4_fill_95 ?_
                refine va_iald hx hb hK hP 22 0 rfl rfl (ixf hf0 (by omega) (by decide)) dX4_fill_96 ?_
                refine lv_iadd hx hb dX4_fill_97 ?_
                refine lv_istore (lv' := [(12, .int (0 + (fp_36 ((nI x2) + (nI (mk / 2 / 2 * 2 + 1))).toNatClampNeg))), (11, .int (nI (mk / 2))), (0, .ref b2), (1, .int (nI x1)), (2, .int (nI x2)), (6, .int (nI (wf (bfx x3) x4))), (7, .int (bI v7_36)), (8, .int (bI v8_36)), (9, .int (nI mk)), (10, .int (nI (256 - i)))]) hx hb dX4_fill_98 hl (by decide) rfl (fun ls hl => ?_)
                refine lv_iload hx hb dX4_fill_100 (lv_at hl 7 rfl) ?_
                refine lv_if_eq (tgt := 120) hx hb dX4_fill_102 (by decide) (fun c_9 => ?_) (fun c_9 => ?_)
                · replace c_9 := bI_f c_9
                  exact lp120 (0 + (fp_36 ((nI x2) + (nI (mk / 2 / 2 * 2 + 1))).toNatClampNeg)) fp_36 hlt_i hfi (vl_s0 (wdw_0 c_3) (mk_0 hmk c_4) (va_y hfi hdj hf0 (by decide) hmk hal c_5 (mk2_0 ⟨mk, hmk⟩ c_7)) (vc_n hac c_9))  _ _ hP hD hS ls (lv_sub hl [2, 3, 4, 5, 6, 7, 8, 9, 0] rfl)
                · replace c_9 := bI_t c_9
                  refine lv_iload hx hb dX4_fill_105 (lv_at hl 0 rfl) ?_
                  refine lv_aload_n hx hb dX4_fill_107 rfl (lv_at hl 2 rfl) ?_
                  refine lv_iload_n hx hb dX4_fill_108 rfl (lv_at hl 4 rfl) ?_
                  refine lv_iload hx hb dX4_fill_109 (lv_at hl 1 rfl) ?_
                  refine lv_sipush (v := 128) hx hb dX4_fill_111 (by decide) ?_
                  refine lv_ior hx hb dX4_fill_114 ?_
                  refine wtop_i (y := nI (mk / 2 + 128)) (or128_t ⟨mk / 2, by omega⟩) ?_
                  refine lv_iadd hx hb dX4_fill_115 ?_
                  refine va_iald hx hb hK hP 22 0 rfl rfl (ixf hf0 (by omega) (by decide)) dX4_fill_116 ?_
                  refine lv_iadd hx hb dX4_fill_117 ?_
                  refine lv_istore (lv' := [(12, .int ((0 + (fp_36 ((nI x2) + (nI (mk / 2 / 2 * 2 + 1))).toNatClampNeg)) + (fp_36 ((nI x2) + (nI (mk / 2 + 128))).toNatClampNeg))), (11, .int (nI (mk / 2))), (0, .ref b2), (1, .int (nI x1)), (2, .int (nI x2)), (6, .int (nI (wf (bfx x3) x4))), (7, .int (bI v7_36)), (8, .int (bI v8_36)), (9, .int (nI mk)), (10, .int (nI (256 - i)))]) hx hb dX4_fill_118 hl (by decide) rfl (fun ls hl => ?_)
                  exact lp120 ((0 + (fp_36 ((nI x2) + (nI (mk / 2 / 2 * 2 + 1))).toNatClampNeg)) + (fp_36 ((nI x2) + (nI (mk / 2 + 128))).toNatClampNeg)) fp_36 hlt_i hfi (vl_s (wdw_0 c_3) (mk_0 hmk c_4) (va_y hfi hdj hf0 (by decide) hmk hal c_5 (mk2_0 ⟨mk, hmk⟩ c_7)) (vc_y hfi hdj hf0 (by decide) hmk hac c_9))  _ _ hP hD hS ls (lv_sub hl [2, 3, 4, 5, 6, 7, 8, 9, 0] rfl)
          · refine lv_aload_n hx hb dX4_fill_64 rfl (lv_at hl 2 rfl) ?_
            refine lv_iload_n hx hb dX4_fill_65 rfl (lv_at hl 4 rfl) ?_
            refine lv_iload hx hb dX4_fill_66 (lv_at hl 1 rfl) ?_
            refine lv_iadd hx hb dX4_fill_68 ?_
            refine va_iald hx hb hK hP 22 0 rfl rfl (ixf hf0 (by omega) (by decide)) dX4_fill_69 ?_
            refine lv_istore (lv' := [(12, .int (fp_36 ((nI x2) + (nI (mk / 2))).toNatClampNeg)), (11, .int (nI (mk / 2))), (0, .ref b2), (1, .int (nI x1)), (2, .int (nI x2)), (6, .int (nI (wf (bfx x3) x4))), (7, .int (bI v7_36)), (8, .int (bI v8_36)), (9, .int (nI mk)), (10, .int (nI (256 - i)))]) hx hb dX4_fill_70 hl (by decide) rfl (fun ls hl => ?_)
            refine lv_goto (tgt := 120) hx hb dX4_fill_72 (by decide) ?_
            exact lp120 (fp_36 ((nI x2) + (nI (mk / 2))).toNatClampNeg) fp_36 hlt_i hfi (vl_a hfi hdj hf0 (by decide) hmk (Or.inr (mk_1 hmk c_4)))  _ _ hP hD hS ls (lv_sub hl [2, 3, 4, 5, 6, 7, 8, 9, 0] rfl)
  refine lv_lload_n hx hb dX4_fill_0 rfl (lv_at hl 3 rfl) ?_
  refine lv_iload hx hb dX4_fill_1 (lv_at hl 4 rfl) ?_
  refine lv_lushr (v := (x3.toUInt64 >>> ((nI x4 : Int32).toInt64.toUInt64 &&& Int64.toUInt64 63)).toInt64) hx hb dX4_fill_3 rfl ?_
  refine lv_l2i (v := ((x3.toUInt64 >>> ((nI x4 : Int32).toInt64.toUInt64 &&& Int64.toUInt64 63)).toInt64 : Int64).toInt32) hx hb dX4_fill_4 rfl ?_
  refine lv_sipush (v := 255) hx hb dX4_fill_5 (by decide) ?_
  refine lv_iand hx hb dX4_fill_8 ?_
  refine wtop_i (y := nI (wf (bfx x3) x4)) (win_eq x3 hx4) ?_
  refine lv_istore (lv' := [(6, .int (nI (wf (bfx x3) x4))), (0, .ref b2), (1, .int (nI x1)), (2, .int (nI x2)), (3, .long x3), (5, .int (nI x4))]) hx hb dX4_fill_9 hl (by decide) rfl (fun ls hl => ?_)
  refine lv_lload_n hx hb dX4_fill_11 rfl (lv_at hl 4 rfl) ?_
  refine lv_iload hx hb dX4_fill_12 (lv_at hl 5 rfl) ?_
  refine kS_i (As := [.long x3, .int (nI x4)]) (rest := []) ⟨hx, hb, hml, hown, hts⟩ (c_X4_alongFits l x3 (nI x4)) (va_cwS 2 hts gX4_fill_X4_alongFits rfl rfl rfl (by decide +kernel) ⟨Nat.le_of_ble_eq_true rfl, Nat.le_of_ble_eq_true rfl⟩) rfl hl.1 rfl (Nat.le_of_ble_eq_true rfl) dX4_fill_14 ⟨Nat.le_of_ble_eq_true rfl, Nat.le_of_ble_eq_true rfl⟩ ?_
  refine lv_istore (lv' := [(7, .int (bI (g_alongFits x3 (nI x4)))), (6, .int (nI (wf (bfx x3) x4))), (0, .ref b2), (1, .int (nI x1)), (2, .int (nI x2)), (3, .long x3), (5, .int (nI x4))]) hx hb dX4_fill_17 hl (by decide) rfl (fun ls hl => ?_)
  refine lv_lload_n hx hb dX4_fill_19 rfl (lv_at hl 5 rfl) ?_
  refine lv_iload hx hb dX4_fill_20 (lv_at hl 6 rfl) ?_
  refine kS_i (As := [.long x3, .int (nI x4)]) (rest := []) ⟨hx, hb, hml, hown, hts⟩ (c_X4_acrossFits l x3 (nI x4)) (va_cwS 2 hts gX4_fill_X4_acrossFits rfl rfl rfl (by decide +kernel) ⟨Nat.le_of_ble_eq_true rfl, Nat.le_of_ble_eq_true rfl⟩) rfl hl.1 rfl (Nat.le_of_ble_eq_true rfl) dX4_fill_22 ⟨Nat.le_of_ble_eq_true rfl, Nat.le_of_ble_eq_true rfl⟩ ?_
  refine lv_istore (lv' := [(8, .int (bI (g_acrossFits x3 (nI x4)))), (7, .int (bI (g_alongFits x3 (nI x4)))), (6, .int (nI (wf (bfx x3) x4))), (0, .ref b2), (1, .int (nI x1)), (2, .int (nI x2)), (3, .long x3), (5, .int (nI x4))]) hx hb dX4_fill_25 hl (by decide) rfl (fun ls hl => ?_)
  refine lv_iload hx hb dX4_fill_27 (lv_at hl 2 rfl) ?_
  refine lv_istore (lv' := [(9, .int (nI (wf (bfx x3) x4))), (8, .int (bI (g_acrossFits x3 (nI x4)))), (7, .int (bI (g_alongFits x3 (nI x4)))), (6, .int (nI (wf (bfx x3) x4))), (0, .ref b2), (1, .int (nI x1)), (2, .int (nI x2)), (3, .long x3), (5, .int (nI x4))]) hx hb dX4_fill_29 hl (by decide) rfl (fun ls hl => ?_)
  refine lv_sipush (v := 256) hx hb dX4_fill_31 (by decide) ?_
  refine lv_istore (lv' := [(10, .int 256), (9, .int (nI (wf (bfx x3) x4))), (8, .int (bI (g_acrossFits x3 (nI x4)))), (7, .int (bI (g_alongFits x3 (nI x4)))), (6, .int (nI (wf (bfx x3) x4))), (0, .ref b2), (1, .int (nI x1)), (2, .int (nI x2)), (3, .long x3), (5, .int (nI x4))]) hx hb dX4_fill_34 hl (by decide) rfl (fun ls hl => ?_)
  exact lp36 _ 0 (wf (bfx x3) x4) (g_alongFits x3 (nI x4)) (g_acrossFits x3 (nI x4)) fp (Nat.zero_le _) (wf_lt _ _) (sub_self _) (wf_lt _ _) (al_eq hx4) (ac_eq hx4) fl_0 (Nat.lt_succ_self _) _ _ hP hD hS ls (lv_sub hl [5, 6, 7, 4, 3, 2, 1, 0] rfl)
