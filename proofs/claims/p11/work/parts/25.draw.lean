theorem dX10_draw_50 : decode cX10_draw 50 = .ok (.iload 6, 2) := by decide +kernel
theorem dX10_draw_52 : decode cX10_draw 52 = .ok (.iload_n 3, 1) := by decide +kernel
theorem dX10_draw_53 : decode cX10_draw 53 = .ok (.if_icmp .ge 32, 3) := by decide +kernel
theorem dX10_draw_85 : decode cX10_draw 85 = .ok (.goto (-47), 3) := by decide +kernel
theorem dX10_draw_56 : decode cX10_draw 56 = .ok (.ldc 230, 2) := by decide +kernel
theorem dX10_draw_58 : decode cX10_draw 58 = .ok (.iload 4, 2) := by decide +kernel
theorem dX10_draw_60 : decode cX10_draw 60 = .ok (.imul, 1) := by decide +kernel
theorem dX10_draw_61 : decode cX10_draw 61 = .ok (.sipush 12345, 3) := by decide +kernel
theorem dX10_draw_64 : decode cX10_draw 64 = .ok (.iadd, 1) := by decide +kernel
theorem dX10_draw_65 : decode cX10_draw 65 = .ok (.istore 4, 2) := by decide +kernel
theorem dX10_draw_67 : decode cX10_draw 67 = .ok (.iconst 2, 1) := by decide +kernel
theorem dX10_draw_68 : decode cX10_draw 68 = .ok (.iload 5, 2) := by decide +kernel
theorem dX10_draw_70 : decode cX10_draw 70 = .ok (.imul, 1) := by decide +kernel
theorem dX10_draw_71 : decode cX10_draw 71 = .ok (.iload 4, 2) := by decide +kernel
theorem dX10_draw_73 : decode cX10_draw 73 = .ok (.bipush 31, 2) := by decide +kernel
theorem dX10_draw_75 : decode cX10_draw 75 = .ok (.iushr, 1) := by decide +kernel
theorem dX10_draw_76 : decode cX10_draw 76 = .ok (.iadd, 1) := by decide +kernel
theorem dX10_draw_77 : decode cX10_draw 77 = .ok (.istore 5, 2) := by decide +kernel
theorem dX10_draw_79 : decode cX10_draw 79 = .ok (.iinc 6 1, 3) := by decide +kernel
theorem dX10_draw_82 : decode cX10_draw 82 = .ok (.goto (-32), 3) := by decide +kernel
theorem dX10_draw_38 : decode cX10_draw 38 = .ok (.iload 5, 2) := by decide +kernel
theorem dX10_draw_40 : decode cX10_draw 40 = .ok (.iload_n 2, 1) := by decide +kernel
theorem dX10_draw_41 : decode cX10_draw 41 = .ok (.if_icmp .lt 47, 3) := by decide +kernel
theorem dX10_draw_88 : decode cX10_draw 88 = .ok (.aload_n 0, 1) := by decide +kernel
theorem dX10_draw_89 : decode cX10_draw 89 = .ok (.iload 5, 2) := by decide +kernel
set_option maxRecDepth 20000 in
theorem ggX10_draw_X10_take : GoodIn wsX10_draw wsX10_take := goodIn_r _ [67, 68, 69, 70, 71, 72, 73, 74, 75, 6, 76, 46, 47, 48, 49, 50, 51, 52, 53, 54, 14, 13, 12, 37, 38, 39, 40, 55, 56, 57, 58, 45, 77, 78, 79, 80, 81, 82, 83, 84, 85, 86, 87, 88, 89, 90, 91, 92, 93, 94, 95, 96, 97, 98, 99, 100, 101, 102, 103, 104, 105, 106] rfl (by decide +kernel)
set_option maxRecDepth 20000 in
theorem gX10_draw_X10_take : GoodIn wsX10_draw (wsV RX10 220 RX10 yX10_take wsX10_take) := goodIn_app (goodIn_r _ [64, 65, 66, 6] rfl (by decide +kernel)) ggX10_draw_X10_take
theorem dX10_draw_91 : decode cX10_draw 91 = .ok (.invokevirtual 220, 3) := by decide +kernel
theorem dX10_draw_94 : decode cX10_draw 94 = .ok (.iload 5, 2) := by decide +kernel
theorem dX10_draw_96 : decode cX10_draw 96 = .ok (.ireturn, 1) := by decide +kernel
theorem dX10_draw_44 : decode cX10_draw 44 = .ok (.iconst 0, 1) := by decide +kernel
theorem dX10_draw_45 : decode cX10_draw 45 = .ok (.istore 5, 2) := by decide +kernel
theorem dX10_draw_47 : decode cX10_draw 47 = .ok (.iconst 0, 1) := by decide +kernel
theorem dX10_draw_48 : decode cX10_draw 48 = .ok (.istore 6, 2) := by decide +kernel
theorem dX10_draw_18 : decode cX10_draw 18 = .ok (.iload_n 2, 1) := by decide +kernel
theorem dX10_draw_19 : decode cX10_draw 19 = .ok (.iconst 1, 1) := by decide +kernel
theorem dX10_draw_20 : decode cX10_draw 20 = .ok (.isub, 1) := by decide +kernel
theorem dX10_draw_21 : decode cX10_draw 21 = .ok (.iload_n 3, 1) := by decide +kernel
theorem dX10_draw_22 : decode cX10_draw 22 = .ok (.ishr, 1) := by decide +kernel
theorem dX10_draw_23 : decode cX10_draw 23 = .ok (.ifCond .eq 9, 3) := by decide +kernel
theorem dX10_draw_32 : decode cX10_draw 32 = .ok (.iload_n 1, 1) := by decide +kernel
theorem dX10_draw_33 : decode cX10_draw 33 = .ok (.istore 4, 2) := by decide +kernel
theorem dX10_draw_35 : decode cX10_draw 35 = .ok (.iload_n 2, 1) := by decide +kernel
theorem dX10_draw_36 : decode cX10_draw 36 = .ok (.istore 5, 2) := by decide +kernel
theorem dX10_draw_26 : decode cX10_draw 26 = .ok (.iinc 3 1, 3) := by decide +kernel
theorem dX10_draw_29 : decode cX10_draw 29 = .ok (.goto (-11), 3) := by decide +kernel
theorem dX10_draw_0 : decode cX10_draw 0 = .ok (.aload_n 0, 1) := by decide +kernel
set_option maxRecDepth 20000 in
theorem ggX10_draw_X10_countAll : GoodIn wsX10_draw wsX10_countAll := goodIn_r _ [7, 8, 9, 10, 6, 11, 12, 13, 14, 15, 16, 17, 18, 19, 20, 21, 22, 23, 24, 25, 26, 27, 28, 29, 30, 31, 32, 33, 34, 35, 36, 37, 38, 39, 40, 41, 42, 43, 44, 45, 46, 47, 48, 49, 50, 51, 52, 53, 54, 55, 56, 57, 58, 77, 78, 79, 80, 81, 82, 83, 84, 85, 86, 87, 88, 89, 90, 91, 92, 93, 94, 95, 96, 97, 98, 99, 100, 101, 102, 103, 104, 105, 106] rfl (by decide +kernel)
set_option maxRecDepth 20000 in
theorem gX10_draw_X10_countAll : GoodIn wsX10_draw (wsV RX10 207 RX10 yX10_countAll wsX10_countAll) := goodIn_app (goodIn_r _ [3, 4, 5, 6] rfl (by decide +kernel)) ggX10_draw_X10_countAll
theorem dX10_draw_1 : decode cX10_draw 1 = .ok (.invokevirtual 207, 3) := by decide +kernel
theorem dX10_draw_4 : decode cX10_draw 4 = .ok (.istore_n 2, 1) := by decide +kernel
theorem dX10_draw_5 : decode cX10_draw 5 = .ok (.iload_n 2, 1) := by decide +kernel
theorem dX10_draw_6 : decode cX10_draw 6 = .ok (.ifCond .ne 10, 3) := by decide +kernel
theorem dX10_draw_16 : decode cX10_draw 16 = .ok (.iconst 0, 1) := by decide +kernel
theorem dX10_draw_17 : decode cX10_draw 17 = .ok (.istore_n 3, 1) := by decide +kernel
theorem dX10_draw_9 : decode cX10_draw 9 = .ok (.aload_n 0, 1) := by decide +kernel
theorem dX10_draw_10 : decode cX10_draw 10 = .ok (.ldc 98, 2) := by decide +kernel
set_option maxRecDepth 20000 in
theorem ggX10_draw_X10_finding : GoodIn wsX10_draw wsX10_finding := goodIn_r _ [62, 63, 77, 78, 79, 80, 81, 82, 83, 84, 85, 86, 87, 88, 89, 90, 91, 92, 93, 94, 95, 96, 97, 98, 99, 100, 101, 102, 103, 104, 105, 106] rfl (by decide +kernel)
set_option maxRecDepth 20000 in
theorem gX10_draw_X10_finding : GoodIn wsX10_draw (wsV RX10 99 RX10 yX10_finding wsX10_finding) := goodIn_app (goodIn_r _ [59, 60, 61, 6] rfl (by decide +kernel)) ggX10_draw_X10_finding
theorem dX10_draw_12 : decode cX10_draw 12 = .ok (.invokevirtual 99, 3) := by decide +kernel
theorem dX10_draw_15 : decode cX10_draw 15 = .ok (.ireturn, 1) := by decide +kernel
set_option maxHeartbeats 4000000 in
set_option maxRecDepth 100000 in
theorem t_X10_draw (l : Launch) (D : va_G) (cy : Nat → ClassId) (a : Nat → Nat) (sz : Nat) (J : Nat → Int64) (I : Nat → Int32) (R : Nat → Nat → Int32) (RJ : Nat → Nat → Int64) (x0 : Int32) (hM : MI I R) : Met l yX10_draw wsX10_draw ({ frames := 4, cells := 0, slots := 0, locals := 94 }) (va_Pc [.ref (a 0), .int x0] (PW D cy sz (MW cy a J I R RJ))) (va_Qi (fun r (u : MS) => ∃ (w0 : Int64), ∃ (w1 : Int64), ∃ (w2 : Int64), ∃ (w3 : Int64), ∃ (w4 : Int64), ∃ (w5 : Int64), ∃ (w6 : Int64), ∃ (w7 : Int32), ∃ (w8 : Int32), ∃ (w9 : Nat → Int32), ((isB w7)) ∧ u = ((va_up (va_up (va_up (va_up (va_up (va_up (va_up J 4 w0) 5 w1) 19 w2) 20 w3) 21 w4) 22 w5) 23 w6), (va_up (va_up I 3 w7) 13 w8), (va_up R 12 w9), RJ)) (BW D (va_A (MW cy a J I R RJ) sz) (MWu cy a)) (va_A (MW cy a J I R RJ) sz)) 0 0 (va_A (MW cy a J I R RJ) sz) := by
  refine Met.ofW (cc := cX10_draw) (maxL := 7) (ret := (some .int)) (by decide) rfl ?_
  intro p e s m args below meth c s₁ B hml hv
  obtain ⟨rfl, rfl, hP, hK, hN, hD0⟩ := hv
  have hx := B.exec
  have hb := B.bytes
  have hr := B.returns
  have hts := atoms_spec (ws := wsX10_draw) B.pre
  have hown : s.vm.findClass RX10 = some m.cls := findClass_of_methodNamed B.named
  have hlocks := B.notSynchronized
  have hw0 := hts (.constant RX10 230 (1103515245)) (by decide +kernel)
  have hw1 := hts (.constant RX10 98 (-100006)) (by decide +kernel)
  have hD := hD0.self (sz := s.heap.size)
  generalize hAe : va_A (MW cy a J I R RJ) s.heap.size = A at hD ⊢
  have hA : ∀ q : Nat, s.heap.size ≤ q → A q := fun q h => by rw [← hAe]; exact Or.inr h
  have hS : va_S A s.heap s.heap [] := va_S.rf
  have hl := lv_entry ([.ref (a 0), .int x0]) (n := 7) (Nat.le_of_ble_eq_true rfl)
  rw [lg_entry_eq]
  generalize (lg_sl ([.ref (a 0), .int x0]) ++ List.replicate (7 - (lg_sl ([.ref (a 0), .int x0])).length) Slot.unset).toArray = ls at hl ⊢
  have hl : lv_has ls 7 [(0, .ref (a 0)), (1, .int x0)] := hl
  have hP : va_P D vwCl (MW cy a (va_up (va_up (va_up (va_up (va_up (va_up (va_up J 4 (J 4)) 5 (J 5)) 19 (J 19)) 20 (J 20)) 21 (J 21)) 22 (J 22)) 23 (J 23)) (va_up (va_up I 3 (I 3)) 13 (I 13)) (va_up R 12 (R 12)) RJ) s.heap := hP
  have hD : va_D A (MW cy a (va_up (va_up (va_up (va_up (va_up (va_up (va_up J 4 (J 4)) 5 (J 5)) 19 (J 19)) 20 (J 20)) 21 (J 21)) 22 (J 22)) 23 (J 23)) (va_up (va_up I 3 (I 3)) 13 (I 13)) (va_up R 12 (R 12)) RJ) := hD
  have lp38 : ∀ (n38 : Nat), ∀ (n9 : Nat) (h9 : Nat) (tt : Nat) (v4_38 : Int32) (v5_38 : Int32) (m0_38 : Int64) (m1_38 : Int64) (m2_38 : Int64) (m3_38 : Int64) (m4_38 : Int64) (m5_38 : Int64) (m6_38 : Int64) (m7_38 : Int32) (m8_38 : Int32) (m9_38 : Nat → Int32), (isB m7_38) → (n9 ≤ 531250000) → (0 < n9) → (hOk n9 h9) → (DR n9 h9 tt v4_38 v5_38) → tt < n38 → ∀ (H : Heap) (locs : List Loc), va_P D vwCl (MW cy a (va_up (va_up (va_up (va_up (va_up (va_up (va_up J 4 m0_38) 5 m1_38) 19 m2_38) 20 m3_38) 21 m4_38) 22 m5_38) 23 m6_38) (va_up (va_up I 3 m7_38) 13 m8_38) (va_up R 12 m9_38) RJ) H → va_D A (MW cy a (va_up (va_up (va_up (va_up (va_up (va_up (va_up J 4 m0_38) 5 m1_38) 19 m2_38) 20 m3_38) 21 m4_38) 22 m5_38) 23 m6_38) (va_up (va_up I 3 m7_38) 13 m8_38) (va_up R 12 m9_38) RJ) → va_S A s.heap H locs → ∀ (ls : Array Slot), lv_has ls 7 [(0, .ref (a 0)), (2, .int (nI n9)), (3, .int (nI h9)), (4, .int v4_38), (5, .int v5_38)] → W p l e (headSpec wsX10_draw ({ frames := 4, cells := 0, slots := 0, locals := 94 })).room s m ([.ref (a 0), .int x0] : List Value).toArray below meth c H locs 0 0 (MQ below (va_Qi (fun r (u : MS) => ∃ (w0 : Int64), ∃ (w1 : Int64), ∃ (w2 : Int64), ∃ (w3 : Int64), ∃ (w4 : Int64), ∃ (w5 : Int64), ∃ (w6 : Int64), ∃ (w7 : Int32), ∃ (w8 : Int32), ∃ (w9 : Nat → Int32), ((isB w7)) ∧ u = ((va_up (va_up (va_up (va_up (va_up (va_up (va_up J 4 w0) 5 w1) 19 w2) 20 w3) 21 w4) 22 w5) 23 w6), (va_up (va_up I 3 w7) 13 w8), (va_up R 12 w9), RJ)) (BW D A (MWu cy a)) A) ([.ref (a 0), .int x0] : List Value).toArray s 0 0 A) (F0 m 38 ls []) := by
    intro n38
    induction n38 with
    | zero => intro n9 h9 tt v4_38 v5_38 m0_38 m1_38 m2_38 m3_38 m4_38 m5_38 m6_38 m7_38 m8_38 m9_38 hm_m7_38 hn9 hn0 hho hdr hn; exact absurd hn (Nat.not_lt_zero _)
    | succ n38 ih38 =>
      intro n9 h9 tt v4_38 v5_38 m0_38 m1_38 m2_38 m3_38 m4_38 m5_38 m6_38 m7_38 m8_38 m9_38 hm_m7_38 hn9 hn0 hho hdr hn38 H locs hP hD hS ls hl
      have lp50 : ∀ (n50 : Nat), ∀ (k9 : Nat) (t9 : Nat) (m9 : Nat) (m0_50 : Int64) (m1_50 : Int64) (m2_50 : Int64) (m3_50 : Int64) (m4_50 : Int64) (m5_50 : Int64) (m6_50 : Int64) (m7_50 : Int32) (m8_50 : Int32) (m9_50 : Nat → Int32), (k9 ≤ h9) → (isB m7_50) → (tt = t9 + 1) → (h9 = 0 ∨ tb (fit (h9 * t9 + 1) v4_38) = 0) → (gN k9 m9 v4_38) → (h9 - k9) < n50 → ∀ (H : Heap) (locs : List Loc), va_P D vwCl (MW cy a (va_up (va_up (va_up (va_up (va_up (va_up (va_up J 4 m0_50) 5 m1_50) 19 m2_50) 20 m3_50) 21 m4_50) 22 m5_50) 23 m6_50) (va_up (va_up I 3 m7_50) 13 m8_50) (va_up R 12 m9_50) RJ) H → va_D A (MW cy a (va_up (va_up (va_up (va_up (va_up (va_up (va_up J 4 m0_50) 5 m1_50) 19 m2_50) 20 m3_50) 21 m4_50) 22 m5_50) 23 m6_50) (va_up (va_up I 3 m7_50) 13 m8_50) (va_up R 12 m9_50) RJ) → va_S A s.heap H locs → ∀ (ls : Array Slot), lv_has ls 7 [(0, .ref (a 0)), (2, .int (nI n9)), (3, .int (nI h9)), (4, .int (fit k9 v4_38)), (5, .int (nI m9)), (6, .int (nI k9))] → W p l e (headSpec wsX10_draw ({ frames := 4, cells := 0, slots := 0, locals := 94 })).room s m ([.ref (a 0), .int x0] : List Value).toArray below meth c H locs 0 0 (MQ below (va_Qi (fun r (u : MS) => ∃ (w0 : Int64), ∃ (w1 : Int64), ∃ (w2 : Int64), ∃ (w3 : Int64), ∃ (w4 : Int64), ∃ (w5 : Int64), ∃ (w6 : Int64), ∃ (w7 : Int32), ∃ (w8 : Int32), ∃ (w9 : Nat → Int32), ((isB w7)) ∧ u = ((va_up (va_up (va_up (va_up (va_up (va_up (va_up J 4 w0) 5 w1) 19 w2) 20 w3) 21 w4) 22 w5) 23 w6), (va_up (va_up I 3 w7) 13 w8), (va_up R 12 w9), RJ)) (BW D A (MWu cy a)) A) ([.ref (a 0), .int x0] : List Value).toArray s 0 0 A) (F0 m 50 ls []) := by
        intro n50
        induction n50 with
        | zero => intro k9 t9 m9 m0_50 m1_50 m2_50 m3_50 m4_50 m5_50 m6_50 m7_50 m8_50 m9_50 hk9 hm_m7_50 htt ht9 hgn hn; exact absurd hn (Nat.not_lt_zero _)
        | succ n50 ih50 =>
          intro k9 t9 m9 m0_50 m1_50 m2_50 m3_50 m4_50 m5_50 m6_50 m7_50 m8_50 m9_50 hk9 hm_m7_50 htt ht9 hgn hn50 H locs hP hD hS ls hl
          refine lv_iload hx hb dX10_draw_50 (lv_at hl 5 rfl) ?_
          refine lv_iload_n hx hb dX10_draw_52 rfl (lv_at hl 2 rfl) ?_
          refine lv_icmp_ge (tgt := 85) hx hb dX10_draw_53 (by decide) (fun c_1 => ?_) (fun c_1 => ?_)
          · have hke := ctr_ge (N := h9) (Nat.lt_of_le_of_lt (hOk_le hn9 hho) (by decide)) hk9 c_1
            refine lv_goto (tgt := 38) hx hb dX10_draw_85 (by decide) ?_
            exact ih38 n9 h9 t9 (fit k9 v4_38) (nI m9) m0_50 m1_50 m2_50 m3_50 m4_50 m5_50 m6_50 m7_50 m8_50 m9_50 hm_m7_50 hn9 hn0 hho (dr_back hn9 hn0 hho ht9 hke hgn) (dr_dec htt hn38) _ _ hP hD hS ls (lv_sub hl [0, 1, 2, 3, 4] rfl)
          · have hlt_k := ctr_lt (N := h9) (Nat.lt_of_le_of_lt (hOk_le hn9 hho) (by decide)) hk9 c_1
            refine lv_ldc (v := 1103515245) hx hb hown hw0 dX10_draw_56 ?_
            refine lv_iload hx hb dX10_draw_58 (lv_at hl 3 rfl) ?_
            refine lv_imul hx hb dX10_draw_60 ?_
            refine lv_sipush (v := 12345) hx hb dX10_draw_61 (by decide) ?_
            refine lv_iadd hx hb dX10_draw_64 ?_
            refine wtop_i (y := fit (k9 + 1) v4_38) rfl ?_
            refine lv_istore (lv' := [(4, .int (fit (k9 + 1) v4_38)), (0, .ref (a 0)), (2, .int (nI n9)), (3, .int (nI h9)), (5, .int (nI m9)), (6, .int (nI k9))]) hx hb dX10_draw_65 hl (by decide) rfl (fun ls hl => ?_)
            refine lv_iconst (v := 2) hx hb dX10_draw_67 (by decide) ?_
            refine lv_iload hx hb dX10_draw_68 (lv_at hl 4 rfl) ?_
            refine lv_imul hx hb dX10_draw_70 ?_
            refine lv_iload hx hb dX10_draw_71 (lv_at hl 0 rfl) ?_
            refine lv_bipush (v := 31) hx hb dX10_draw_73 (by decide) ?_
            refine lv_iushr (v := ((fit (k9 + 1) v4_38).toUInt32 >>> ((31 : Int32).toUInt32 &&& Int32.toUInt32 31)).toInt32) hx hb dX10_draw_75 rfl ?_
            refine wtop_i (y := nI (tb (fit (k9 + 1) v4_38))) (tb_eq _) ?_
            refine lv_iadd hx hb dX10_draw_76 ?_
            refine wtop_i (y := nI (2 * m9 + tb (fit (k9 + 1) v4_38))) (by rw [← nI_add, ← pk_mul]; rfl) ?_
            refine lv_istore (lv' := [(5, .int (nI (2 * m9 + tb (fit (k9 + 1) v4_38)))), (4, .int (fit (k9 + 1) v4_38)), (0, .ref (a 0)), (2, .int (nI n9)), (3, .int (nI h9)), (6, .int (nI k9))]) hx hb dX10_draw_77 hl (by decide) rfl (fun ls hl => ?_)
            refine lv_iinc (v := nI (k9 + 1)) (lv' := [(6, .int (nI (k9 + 1))), (5, .int (nI (2 * m9 + tb (fit (k9 + 1) v4_38)))), (4, .int (fit (k9 + 1) v4_38)), (0, .ref (a 0)), (2, .int (nI n9)), (3, .int (nI h9))]) hx hb dX10_draw_79 hl (k := 5) rfl (nI_1 _) (by decide) rfl (fun ls hl => ?_)
            refine lv_goto (tgt := 50) hx hb dX10_draw_82 (by decide) ?_
            exact ih50 (k9 + 1) t9 (2 * m9 + tb (fit (k9 + 1) v4_38)) m0_50 m1_50 m2_50 m3_50 m4_50 m5_50 m6_50 m7_50 m8_50 m9_50 hlt_k hm_m7_50 htt ht9 (gN_s hgn) (lt_dec hlt_k hn50) _ _ hP hD hS ls (lv_sub hl [3, 4, 5, 2, 1, 0] rfl)
      refine lv_iload hx hb dX10_draw_38 (lv_at hl 4 rfl) ?_
      refine lv_iload_n hx hb dX10_draw_40 rfl (lv_at hl 1 rfl) ?_
      refine lv_icmp_lt (tgt := 88) hx hb dX10_draw_41 (by decide) (fun c_2 => ?_) (fun c_2 => ?_)
      · refine lv_aload_n hx hb dX10_draw_88 rfl (lv_at hl 0 rfl) ?_
        refine lv_iload hx hb dX10_draw_89 (lv_at hl 4 rfl) ?_
        refine kM_v (As := [.int v5_38]) (rest := []) (q0 := 0) ⟨hx, hb, hml, hown, hts⟩ (t_X10_take l D cy a _ (va_up (va_up (va_up (va_up (va_up (va_up (va_up J 4 m0_38) 5 m1_38) 19 m2_38) 20 m3_38) 21 m4_38) 22 m5_38) 23 m6_38) (va_up (va_up I 3 m7_38) 13 m8_38) (va_up R 12 m9_38) RJ v5_38  ⟨hM.1, hm_m7_38, hM.2.2.1, hM.2.2.2.1, hM.2.2.2.2.1, hM.2.2.2.2.2⟩) (cwV 1 hts gX10_draw_X10_take rfl rfl rfl (by decide +kernel) ⟨Nat.le_of_ble_eq_true rfl, Nat.le_of_ble_eq_true rfl⟩) hK hN hP hD hS hA rfl rfl rfl hl.1 rfl (Nat.le_of_ble_eq_true rfl) dX10_draw_91 ⟨Nat.le_of_ble_eq_true rfl, Nat.le_of_ble_eq_true rfl⟩ (fun u H locs hw hP hD hS => ?_)
        obtain ⟨w_4, w_5, w_6, w_7, w_8, hi_9, rfl⟩ := hw
        have hP : va_P D vwCl (MW cy a (va_up (va_up (va_up (va_up (va_up (va_up (va_up J 4 w_4) 5 w_5) 19 m2_38) 20 m3_38) 21 m4_38) 22 w_6) 23 w_7) (va_up (va_up I 3 w_8) 13 m8_38) (va_up R 12 m9_38) RJ) H := hP
        have hD : va_D A (MW cy a (va_up (va_up (va_up (va_up (va_up (va_up (va_up J 4 w_4) 5 w_5) 19 m2_38) 20 m3_38) 21 m4_38) 22 w_6) 23 w_7) (va_up (va_up I 3 w_8) 13 m8_38) (va_up R 12 m9_38) RJ) := hD
        refine lv_iload hx hb dX10_draw_94 (lv_at hl 4 rfl) ?_
        exact wret_i hx hb hr hlocks ((va_up (va_up (va_up (va_up (va_up (va_up (va_up J 4 w_4) 5 w_5) 19 m2_38) 20 m3_38) 21 m4_38) 22 w_6) 23 w_7), (va_up (va_up I 3 w_8) 13 m8_38), (va_up R 12 m9_38), RJ) ⟨w_4, w_5, m2_38, m3_38, m4_38, w_6, w_7, w_8, m8_38, m9_38, hi_9, rfl⟩ hP hD hS dX10_draw_96
      · obtain ⟨t9, htt, ht9⟩ := dr_pos hdr c_2
        refine lv_iconst (v := 0) hx hb dX10_draw_44 (by decide) ?_
        refine lv_istore (lv' := [(5, .int 0), (0, .ref (a 0)), (2, .int (nI n9)), (3, .int (nI h9)), (4, .int v4_38)]) hx hb dX10_draw_45 hl (by decide) rfl (fun ls hl => ?_)
        refine lv_iconst (v := 0) hx hb dX10_draw_47 (by decide) ?_
        refine lv_istore (lv' := [(6, .int 0), (5, .int 0), (0, .ref (a 0)), (2, .int (nI n9)), (3, .int (nI h9)), (4, .int v4_38)]) hx hb dX10_draw_48 hl (by decide) rfl (fun ls hl => ?_)
        exact lp50 _ 0 t9 0 m0_38 m1_38 m2_38 m3_38 m4_38 m5_38 m6_38 m7_38 m8_38 m9_38 (Nat.zero_le _) hm_m7_38 htt ht9 gN_0 (Nat.lt_succ_self _) _ _ hP hD hS ls (lv_sub hl [2, 3, 4, 5, 1, 0] rfl)
  have lp18 : ∀ (n18 : Nat), ∀ (h9 : Nat) (n9 : Nat) (m0_18 : Int64) (m1_18 : Int64) (m2_18 : Int64) (m3_18 : Int64) (m4_18 : Int64) (m5_18 : Int64) (m6_18 : Int64) (m7_18 : Int32) (m8_18 : Int32) (m9_18 : Nat → Int32), (h9 ≤ 31) → (isB m7_18) → (n9 ≤ 531250000) → (0 < n9) → (hOk n9 h9) → (31 - h9) < n18 → ∀ (H : Heap) (locs : List Loc), va_P D vwCl (MW cy a (va_up (va_up (va_up (va_up (va_up (va_up (va_up J 4 m0_18) 5 m1_18) 19 m2_18) 20 m3_18) 21 m4_18) 22 m5_18) 23 m6_18) (va_up (va_up I 3 m7_18) 13 m8_18) (va_up R 12 m9_18) RJ) H → va_D A (MW cy a (va_up (va_up (va_up (va_up (va_up (va_up (va_up J 4 m0_18) 5 m1_18) 19 m2_18) 20 m3_18) 21 m4_18) 22 m5_18) 23 m6_18) (va_up (va_up I 3 m7_18) 13 m8_18) (va_up R 12 m9_18) RJ) → va_S A s.heap H locs → ∀ (ls : Array Slot), lv_has ls 7 [(0, .ref (a 0)), (1, .int x0), (2, .int (nI n9)), (3, .int (nI h9))] → W p l e (headSpec wsX10_draw ({ frames := 4, cells := 0, slots := 0, locals := 94 })).room s m ([.ref (a 0), .int x0] : List Value).toArray below meth c H locs 0 0 (MQ below (va_Qi (fun r (u : MS) => ∃ (w0 : Int64), ∃ (w1 : Int64), ∃ (w2 : Int64), ∃ (w3 : Int64), ∃ (w4 : Int64), ∃ (w5 : Int64), ∃ (w6 : Int64), ∃ (w7 : Int32), ∃ (w8 : Int32), ∃ (w9 : Nat → Int32), ((isB w7)) ∧ u = ((va_up (va_up (va_up (va_up (va_up (va_up (va_up J 4 w0) 5 w1) 19 w2) 20 w3) 21 w4) 22 w5) 23 w6), (va_up (va_up I 3 w7) 13 w8), (va_up R 12 w9), RJ)) (BW D A (MWu cy a)) A) ([.ref (a 0), .int x0] : List Value).toArray s 0 0 A) (F0 m 18 ls []) := by
    intro n18
    induction n18 with
    | zero => intro h9 n9 m0_18 m1_18 m2_18 m3_18 m4_18 m5_18 m6_18 m7_18 m8_18 m9_18 hh9 hm_m7_18 hn9 hn0 hho hn; exact absurd hn (Nat.not_lt_zero _)
    | succ n18 ih18 =>
      intro h9 n9 m0_18 m1_18 m2_18 m3_18 m4_18 m5_18 m6_18 m7_18 m8_18 m9_18 hh9 hm_m7_18 hn9 hn0 hho hn18 H locs hP hD hS ls hl
      refine lv_iload_n hx hb dX10_draw_18 rfl (lv_at hl 2 rfl) ?_
      refine lv_iconst (v := 1) hx hb dX10_draw_19 (by decide) ?_
      refine lv_isub hx hb dX10_draw_20 ?_
      refine wtop_i (y := nI (n9 - 1)) (nI_pr9 hn0) ?_
      refine lv_iload_n hx hb dX10_draw_21 rfl (lv_at hl 3 rfl) ?_
      refine lv_ishr hx hb dX10_draw_22 ?_
      refine wtop_i (y := nI ((n9 - 1) / 2 ^ h9)) (pk_shrN (dr_lt hn9) _ h9 (sm32 ⟨h9, dr_31 hn9 hho⟩)) ?_
      refine lv_if_eq (tgt := 32) hx hb dX10_draw_23 (by decide) (fun c_10 => ?_) (fun c_10 => ?_)
      · obtain ⟨t0, ht0⟩ := lcg_ex (hOk_le hn9 hho) x0
        refine lv_iload_n hx hb dX10_draw_32 rfl (lv_at hl 1 rfl) ?_
        refine lv_istore (lv' := [(4, .int x0), (0, .ref (a 0)), (1, .int x0), (2, .int (nI n9)), (3, .int (nI h9))]) hx hb dX10_draw_33 hl (by decide) rfl (fun ls hl => ?_)
        refine lv_iload_n hx hb dX10_draw_35 rfl (lv_at hl 3 rfl) ?_
        refine lv_istore (lv' := [(5, .int (nI n9)), (4, .int x0), (0, .ref (a 0)), (1, .int x0), (2, .int (nI n9)), (3, .int (nI h9))]) hx hb dX10_draw_36 hl (by decide) rfl (fun ls hl => ?_)
        exact lp38 _ n9 h9 (t0 + 1) x0 (nI n9) m0_18 m1_18 m2_18 m3_18 m4_18 m5_18 m6_18 m7_18 m8_18 m9_18 hm_m7_18 hn9 hn0 hho (Or.inr ⟨t0, rfl, ht0⟩) (Nat.lt_succ_self _) _ _ hP hD hS ls (lv_sub hl [2, 4, 5, 1, 0] rfl)
      · have hho2 := dr_s hn9 c_10
        refine lv_iinc (v := nI (h9 + 1)) (lv' := [(3, .int (nI (h9 + 1))), (0, .ref (a 0)), (1, .int x0), (2, .int (nI n9))]) hx hb dX10_draw_26 hl (k := 3) rfl (nI_1 _) (by decide) rfl (fun ls hl => ?_)
        refine lv_goto (tgt := 18) hx hb dX10_draw_29 (by decide) ?_
        exact ih18 (h9 + 1) n9 m0_18 m1_18 m2_18 m3_18 m4_18 m5_18 m6_18 m7_18 m8_18 m9_18 (dr_31b hn9 hho2) hm_m7_18 hn9 hn0 hho2 (dr_m hn9 hho hho2 hn18) _ _ hP hD hS ls (lv_sub hl [1, 2, 3, 0] rfl)
  refine lv_aload_n hx hb dX10_draw_0 rfl (lv_at hl 0 rfl) ?_
  refine kM_i (As := []) (rest := []) (q0 := 0) ⟨hx, hb, hml, hown, hts⟩ (t_X10_countAll l D cy a _ (va_up (va_up (va_up (va_up (va_up (va_up (va_up J 4 (J 4)) 5 (J 5)) 19 (J 19)) 20 (J 20)) 21 (J 21)) 22 (J 22)) 23 (J 23)) (va_up (va_up I 3 (I 3)) 13 (I 13)) (va_up R 12 (R 12)) RJ   ⟨hM.1, hM.2.1, hM.2.2.1, hM.2.2.2.1, hM.2.2.2.2.1, hM.2.2.2.2.2⟩) (cwV 0 hts gX10_draw_X10_countAll rfl rfl rfl (by decide +kernel) ⟨Nat.le_of_ble_eq_true rfl, Nat.le_of_ble_eq_true rfl⟩) hK hN hP hD hS hA rfl rfl rfl hl.1 rfl (Nat.le_of_ble_eq_true rfl) dX10_draw_1 ⟨Nat.le_of_ble_eq_true rfl, Nat.le_of_ble_eq_true rfl⟩ (fun r_11 u H locs hw hP hD hS => ?_)
  obtain ⟨w_12, w_13, w_14, w_15, ⟨hp_16, hp_17⟩, rfl⟩ := hw
  have hP : va_P D vwCl (MW cy a (va_up (va_up (va_up (va_up (va_up (va_up (va_up J 4 (J 4)) 5 (J 5)) 19 w_12) 20 w_13) 21 w_14) 22 (J 22)) 23 (J 23)) (va_up (va_up I 3 (I 3)) 13 (I 13)) (va_up R 12 w_15) RJ) H := hP
  have hD : va_D A (MW cy a (va_up (va_up (va_up (va_up (va_up (va_up (va_up J 4 (J 4)) 5 (J 5)) 19 w_12) 20 w_13) 21 w_14) 22 (J 22)) 23 (J 23)) (va_up (va_up I 3 (I 3)) 13 (I 13)) (va_up R 12 w_15) RJ) := hD
  refine lv_istore_n (lv' := [(2, .int r_11), (0, .ref (a 0)), (1, .int x0)]) hx hb dX10_draw_4 rfl hl (by decide) rfl (fun ls hl => ?_)
  have HC := hp_16
  refine lv_iload_n hx hb dX10_draw_5 rfl (lv_at hl 0 rfl) ?_
  refine lv_if_ne (tgt := 16) hx hb dX10_draw_6 (by decide) (fun c_18 => ?_) (fun c_18 => ?_)
  · obtain ⟨n9, hn9, hn0, rfl⟩ := c_pos HC c_18
    refine lv_iconst (v := 0) hx hb dX10_draw_16 (by decide) ?_
    refine lv_istore_n (lv' := [(3, .int 0), (2, .int (nI n9)), (0, .ref (a 0)), (1, .int x0)]) hx hb dX10_draw_17 rfl hl (by decide) rfl (fun ls hl => ?_)
    exact lp18 _ 0 n9 (J 4) (J 5) w_12 w_13 w_14 (J 22) (J 23) (I 3) (I 13) w_15 (Nat.zero_le _) hM.2.1 hn9 hn0 (Or.inl rfl) (Nat.lt_succ_self _) _ _ hP hD hS ls (lv_sub hl [2, 3, 1, 0] rfl)
  · refine lv_aload_n hx hb dX10_draw_9 rfl (lv_at hl 1 rfl) ?_
    refine lv_ldc (v := (-100006)) hx hb hown hw1 dX10_draw_10 ?_
    refine kM_i (As := [.int (-100006)]) (rest := []) (q0 := 0) ⟨hx, hb, hml, hown, hts⟩ (c_X10_finding l D cy a _ (va_up (va_up (va_up (va_up (va_up (va_up (va_up J 4 (J 4)) 5 (J 5)) 19 w_12) 20 w_13) 21 w_14) 22 (J 22)) 23 (J 23)) (va_up (va_up I 3 (I 3)) 13 (I 13)) (va_up R 12 w_15) RJ (-100006) ) (cwV 1 hts gX10_draw_X10_finding rfl rfl rfl (by decide +kernel) ⟨Nat.le_of_ble_eq_true rfl, Nat.le_of_ble_eq_true rfl⟩) hK hN hP hD hS hA rfl rfl rfl hl.1 rfl (Nat.le_of_ble_eq_true rfl) dX10_draw_12 ⟨Nat.le_of_ble_eq_true rfl, Nat.le_of_ble_eq_true rfl⟩ (fun r_19 u H locs hw hP hD hS => ?_)
    obtain ⟨rfl, rfl⟩ := hw
    have hP : va_P D vwCl (MW cy a (va_up (va_up (va_up (va_up (va_up (va_up (va_up J 4 (J 4)) 5 (J 5)) 19 w_12) 20 w_13) 21 w_14) 22 (J 22)) 23 (J 23)) (va_up (va_up I 3 (I 3)) 13 ((I 13) + 1)) (va_up R 12 w_15) RJ) H := hP
    have hD : va_D A (MW cy a (va_up (va_up (va_up (va_up (va_up (va_up (va_up J 4 (J 4)) 5 (J 5)) 19 w_12) 20 w_13) 21 w_14) 22 (J 22)) 23 (J 23)) (va_up (va_up I 3 (I 3)) 13 ((I 13) + 1)) (va_up R 12 w_15) RJ) := hD
    exact wret_i hx hb hr hlocks ((va_up (va_up (va_up (va_up (va_up (va_up (va_up J 4 (J 4)) 5 (J 5)) 19 w_12) 20 w_13) 21 w_14) 22 (J 22)) 23 (J 23)), (va_up (va_up I 3 (I 3)) 13 ((I 13) + 1)), (va_up R 12 w_15), RJ) ⟨(J 4), (J 5), w_12, w_13, w_14, (J 22), (J 23), (I 3), ((I 13) + 1), w_15, hM.2.1, rfl⟩ hP hD hS dX10_draw_15
