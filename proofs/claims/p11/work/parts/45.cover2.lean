theorem dX0_search_84 : decode cX0_search 84 = .ok (.iload 8, 2) := by decide +kernel
theorem dX0_search_86 : decode cX0_search 86 = .ok (.iload 7, 2) := by decide +kernel
theorem dX0_search_88 : decode cX0_search 88 = .ok (.if_icmp .gt 66, 3) := by decide +kernel
theorem dX0_search_154 : decode cX0_search 154 = .ok (.iinc 3 1, 3) := by decide +kernel
theorem dX0_search_157 : decode cX0_search 157 = .ok (.goto (-141), 3) := by decide +kernel
theorem dX0_search_91 : decode cX0_search 91 = .ok (.lload 5, 2) := by decide +kernel
theorem dX0_search_93 : decode cX0_search 93 = .ok (.iload 8, 2) := by decide +kernel
set_option maxRecDepth 20000 in
theorem ggX0_search_X1_holds : GoodIn wsX0_search wsX1_holds := goodIn_r _ [25] rfl (by decide +kernel)
set_option maxRecDepth 20000 in
theorem gX0_search_X1_holds : GoodIn wsX0_search (va_wsS RX0 64 yX1_holds wsX1_holds) := goodIn_app (goodIn_r _ [22, 23, 24] rfl (by decide +kernel)) ggX0_search_X1_holds
theorem dX0_search_95 : decode cX0_search 95 = .ok (.invokestatic 64, 3) := by decide +kernel
theorem dX0_search_98 : decode cX0_search 98 = .ok (.ifCond .eq 50, 3) := by decide +kernel
theorem dX0_search_148 : decode cX0_search 148 = .ok (.iinc 8 1, 3) := by decide +kernel
theorem dX0_search_151 : decode cX0_search 151 = .ok (.goto (-67), 3) := by decide +kernel
theorem dX0_search_101 : decode cX0_search 101 = .ok (.aload_n 0, 1) := by decide +kernel
theorem dX0_search_102 : decode cX0_search 102 = .ok (.getfield 13, 3) := by decide +kernel
theorem dX0_search_105 : decode cX0_search 105 = .ok (.iload 8, 2) := by decide +kernel
theorem dX0_search_107 : decode cX0_search 107 = .ok (.iload 4, 2) := by decide +kernel
theorem dX0_search_109 : decode cX0_search 109 = .ok (.iastore, 1) := by decide +kernel
theorem dX0_search_110 : decode cX0_search 110 = .ok (.aload_n 0, 1) := by decide +kernel
theorem dX0_search_111 : decode cX0_search 111 = .ok (.getfield 7, 3) := by decide +kernel
theorem dX0_search_114 : decode cX0_search 114 = .ok (.iload 8, 2) := by decide +kernel
theorem dX0_search_116 : decode cX0_search 116 = .ok (.iaload, 1) := by decide +kernel
theorem dX0_search_117 : decode cX0_search 117 = .ok (.iconst (-1), 1) := by decide +kernel
theorem dX0_search_118 : decode cX0_search 118 = .ok (.if_icmp .ne 6, 3) := by decide +kernel
theorem dX0_search_124 : decode cX0_search 124 = .ok (.aload_n 0, 1) := by decide +kernel
theorem dX0_search_125 : decode cX0_search 125 = .ok (.dup, 1) := by decide +kernel
theorem dX0_search_126 : decode cX0_search 126 = .ok (.getfield 41, 3) := by decide +kernel
theorem dX0_search_129 : decode cX0_search 129 = .ok (.lconst 1, 1) := by decide +kernel
theorem dX0_search_130 : decode cX0_search 130 = .ok (.iload 8, 2) := by decide +kernel
theorem dX0_search_132 : decode cX0_search 132 = .ok (.lshl, 1) := by decide +kernel
theorem dX0_search_133 : decode cX0_search 133 = .ok (.lor, 1) := by decide +kernel
theorem dX0_search_134 : decode cX0_search 134 = .ok (.putfield 41, 3) := by decide +kernel
theorem dX0_search_137 : decode cX0_search 137 = .ok (.aload_n 0, 1) := by decide +kernel
theorem dX0_search_138 : decode cX0_search 138 = .ok (.aload_n 0, 1) := by decide +kernel
theorem dX0_search_139 : decode cX0_search 139 = .ok (.getfield 7, 3) := by decide +kernel
theorem dX0_search_142 : decode cX0_search 142 = .ok (.iload 8, 2) := by decide +kernel
theorem dX0_search_144 : decode cX0_search 144 = .ok (.iaload, 1) := by decide +kernel
set_option maxRecDepth 20000 in
theorem ggX0_search_X0_enqueue : GoodIn wsX0_search wsX0_enqueue := goodIn_r _ [29, 4, 3, 20, 22, 23, 24, 25, 35, 36, 37, 38, 39, 40, 41] rfl (by decide +kernel)
set_option maxRecDepth 20000 in
theorem gX0_search_X0_enqueue : GoodIn wsX0_search (wsV RX0 68 RX0 yX0_enqueue wsX0_enqueue) := goodIn_app (goodIn_r _ [26, 27, 28, 18] rfl (by decide +kernel)) ggX0_search_X0_enqueue
theorem dX0_search_145 : decode cX0_search 145 = .ok (.invokevirtual 68, 3) := by decide +kernel
theorem dX0_search_121 : decode cX0_search 121 = .ok (.iload 8, 2) := by decide +kernel
theorem dX0_search_123 : decode cX0_search 123 = .ok (.ireturn, 1) := by decide +kernel
theorem dX0_search_16 : decode cX0_search 16 = .ok (.iload_n 3, 1) := by decide +kernel
theorem dX0_search_17 : decode cX0_search 17 = .ok (.aload_n 0, 1) := by decide +kernel
theorem dX0_search_18 : decode cX0_search 18 = .ok (.getfield 16, 3) := by decide +kernel
theorem dX0_search_21 : decode cX0_search 21 = .ok (.arraylength, 1) := by decide +kernel
theorem dX0_search_22 : decode cX0_search 22 = .ok (.if_icmp .ge 138, 3) := by decide +kernel
theorem dX0_search_160 : decode cX0_search 160 = .ok (.iconst (-1), 1) := by decide +kernel
theorem dX0_search_161 : decode cX0_search 161 = .ok (.ireturn, 1) := by decide +kernel
theorem dX0_search_25 : decode cX0_search 25 = .ok (.iload_n 3, 1) := by decide +kernel
theorem dX0_search_26 : decode cX0_search 26 = .ok (.aload_n 0, 1) := by decide +kernel
theorem dX0_search_27 : decode cX0_search 27 = .ok (.getfield 45, 3) := by decide +kernel
theorem dX0_search_30 : decode cX0_search 30 = .ok (.if_icmp .ge 130, 3) := by decide +kernel
theorem dX0_search_33 : decode cX0_search 33 = .ok (.aload_n 0, 1) := by decide +kernel
theorem dX0_search_34 : decode cX0_search 34 = .ok (.getfield 16, 3) := by decide +kernel
theorem dX0_search_37 : decode cX0_search 37 = .ok (.iload_n 3, 1) := by decide +kernel
theorem dX0_search_38 : decode cX0_search 38 = .ok (.iaload, 1) := by decide +kernel
theorem dX0_search_39 : decode cX0_search 39 = .ok (.istore 4, 2) := by decide +kernel
theorem dX0_search_41 : decode cX0_search 41 = .ok (.lconst 1, 1) := by decide +kernel
theorem dX0_search_42 : decode cX0_search 42 = .ok (.iload 4, 2) := by decide +kernel
theorem dX0_search_44 : decode cX0_search 44 = .ok (.lshl, 1) := by decide +kernel
set_option maxRecDepth 20000 in
theorem ggX0_search_X1_beside : GoodIn wsX0_search wsX1_beside := goodIn_r _ [32, 33, 34] rfl (by decide +kernel)
set_option maxRecDepth 20000 in
theorem gX0_search_X1_beside : GoodIn wsX0_search (va_wsS RX0 49 yX1_beside wsX1_beside) := goodIn_app (goodIn_r _ [30, 31, 24] rfl (by decide +kernel)) ggX0_search_X1_beside
theorem dX0_search_45 : decode cX0_search 45 = .ok (.invokestatic 49, 3) := by decide +kernel
theorem dX0_search_48 : decode cX0_search 48 = .ok (.lload_n 1, 1) := by decide +kernel
theorem dX0_search_49 : decode cX0_search 49 = .ok (.land, 1) := by decide +kernel
theorem dX0_search_50 : decode cX0_search 50 = .ok (.aload_n 0, 1) := by decide +kernel
theorem dX0_search_51 : decode cX0_search 51 = .ok (.getfield 41, 3) := by decide +kernel
theorem dX0_search_54 : decode cX0_search 54 = .ok (.ldc2_w 53, 3) := by decide +kernel
theorem dX0_search_57 : decode cX0_search 57 = .ok (.lxor, 1) := by decide +kernel
theorem dX0_search_58 : decode cX0_search 58 = .ok (.land, 1) := by decide +kernel
theorem dX0_search_59 : decode cX0_search 59 = .ok (.lstore 5, 2) := by decide +kernel
theorem dX0_search_61 : decode cX0_search 61 = .ok (.bipush 63, 2) := by decide +kernel
theorem dX0_search_63 : decode cX0_search 63 = .ok (.iload 4, 2) := by decide +kernel
theorem dX0_search_65 : decode cX0_search 65 = .ok (.bipush 8, 2) := by decide +kernel
theorem dX0_search_67 : decode cX0_search 67 = .ok (.iadd, 1) := by decide +kernel
theorem dX0_search_68 : decode cX0_search 68 = .ok (.invokestatic 55, 3) := by decide +kernel
theorem dX0_search_71 : decode cX0_search 71 = .ok (.istore 7, 2) := by decide +kernel
theorem dX0_search_73 : decode cX0_search 73 = .ok (.iconst 0, 1) := by decide +kernel
theorem dX0_search_74 : decode cX0_search 74 = .ok (.iload 4, 2) := by decide +kernel
theorem dX0_search_76 : decode cX0_search 76 = .ok (.bipush 8, 2) := by decide +kernel
theorem dX0_search_78 : decode cX0_search 78 = .ok (.isub, 1) := by decide +kernel
theorem dX0_search_79 : decode cX0_search 79 = .ok (.invokestatic 61, 3) := by decide +kernel
theorem dX0_search_82 : decode cX0_search 82 = .ok (.istore 8, 2) := by decide +kernel
theorem dX0_search_0 : decode cX0_search 0 = .ok (.aload_n 0, 1) := by decide +kernel
theorem dX0_search_1 : decode cX0_search 1 = .ok (.lload_n 1, 1) := by decide +kernel
theorem dX0_search_2 : decode cX0_search 2 = .ok (.ldc2_w 35, 3) := by decide +kernel
theorem dX0_search_5 : decode cX0_search 5 = .ok (.land, 1) := by decide +kernel
set_option maxRecDepth 20000 in
theorem ggX0_search_X0_queueLeft : GoodIn wsX0_search wsX0_queueLeft := goodIn_r _ [19, 4, 20, 14, 21, 22, 23, 24, 25, 26, 27, 28, 18, 29, 3, 35, 36, 37, 38, 39, 40, 41] rfl (by decide +kernel)
set_option maxRecDepth 20000 in
theorem gX0_search_X0_queueLeft : GoodIn wsX0_search (wsV RX0 37 RX0 yX0_queueLeft wsX0_queueLeft) := goodIn_app (goodIn_r _ [15, 16, 17, 18] rfl (by decide +kernel)) ggX0_search_X0_queueLeft
theorem dX0_search_6 : decode cX0_search 6 = .ok (.invokevirtual 37, 3) := by decide +kernel
theorem dX0_search_9 : decode cX0_search 9 = .ok (.aload_n 0, 1) := by decide +kernel
theorem dX0_search_10 : decode cX0_search 10 = .ok (.lconst 0, 1) := by decide +kernel
theorem dX0_search_11 : decode cX0_search 11 = .ok (.putfield 41, 3) := by decide +kernel
theorem dX0_search_14 : decode cX0_search 14 = .ok (.iconst 0, 1) := by decide +kernel
theorem dX0_search_15 : decode cX0_search 15 = .ok (.istore_n 3, 1) := by decide +kernel
set_option maxRecDepth 20000 in
theorem ihX0_search_0 : ∀ w ∈ u_ws RX0 TX0 7, w ∈ wsX0_search := fun _ h => List.mem_cons_of_mem _ (List.mem_append_right _ h)
set_option maxHeartbeats 4000000 in
set_option maxRecDepth 100000 in
theorem t_X0_search (l : Launch) (D : va_G) (cy : Nat → ClassId) (a : Nat → Nat) (sz : Nat) (J : Nat → Int64) (I : Nat → Int32) (O : Nat → Option Nat) (R : Nat → Nat → Int32) (RO : Nat → Nat → Option Nat) (LL : va_W) (Y : va_W) (x0 : Int64) (hG : RG (R 9)) (hQ : Q64 (R 11)) (hF : Q64 (R 10)) : Met l yX0_search wsX0_search ({ frames := 3, cells := 0, slots := 0, locals := 66 }) (va_Pc [.ref (a 8), .long x0] (PW D cy sz (CT cy a J I O R RO (LL ++ Y)))) (va_Qi (fun r (u : TS) => ∃ (w0 : Int64), ∃ (w1 : Int64), ∃ (w2 : Int64), ∃ (w3 : Int32), ∃ (w4 : Nat → Int32), ∃ (w5 : Nat → Int32), ((Q64 w5) ∧ (Q64 w4) ∧ (m1in r)) ∧ u = ((va_up (va_up (va_up J 260 w0) 261 w1) 262 w2), (va_up I 259 w3), O, (va_up (va_up R 10 w4) 11 w5), RO, LL, Y)) (BW D (va_A (CT cy a J I O R RO (LL ++ Y)) sz) (CTu cy a)) (va_A (CT cy a J I O R RO (LL ++ Y)) sz)) 0 0 (va_A (CT cy a J I O R RO (LL ++ Y)) sz) := by
  refine Met.ofW (cc := cX0_search) (maxL := 9) (ret := (some .int)) (by decide) rfl ?_
  intro p e s m args below meth c s₁ B hml hv
  obtain ⟨rfl, rfl, hP, hK, hN, hD0⟩ := hv
  have hx := B.exec
  have hb := B.bytes
  have hr := B.returns
  have hts := atoms_spec (ws := wsX0_search) B.pre
  have hown : s.vm.findClass RX0 = some m.cls := findClass_of_methodNamed B.named
  have hlocks := B.notSynchronized
  have hw0 := hts (.fieldLink RX0 13 "ParquetLayer$Covering" "reachedFrom" "[I") (by decide +kernel)
  have hw1 := hts (.fieldLink RX0 7 "ParquetLayer$Covering" "mate" "[I") (by decide +kernel)
  have hw2 := hts (.fieldLink RX0 41 "ParquetLayer$Covering" "seen" "J") (by decide +kernel)
  have hw3 := hts (.fieldLink RX0 16 "ParquetLayer$Covering" "queue" "[I") (by decide +kernel)
  have hw4 := hts (.fieldLink RX0 45 "ParquetLayer$Covering" "queued" "I") (by decide +kernel)
  have hw5 := hts (.constantLong RX0 53 (-1)) (by decide +kernel)
  have hw6 := hts (.methodLink RX0 55 Lib.Math.min.name) (by decide +kernel)
  have hw7 := hts (.static Lib.Math.min.name) (by decide +kernel)
  have hw8 := hts (.initialized "java/lang/Math") (by decide +kernel)
  have hw9 := hts (.code Lib.Math.min.name Lib.Math.min.code 2 (some .int)) (by decide +kernel)
  have hw10 := hts (.methodLink RX0 61 Lib.Math.max.name) (by decide +kernel)
  have hw11 := hts (.static Lib.Math.max.name) (by decide +kernel)
  have hw12 := hts (.code Lib.Math.max.name Lib.Math.max.code 2 (some .int)) (by decide +kernel)
  have hw13 := hts (.constantLong RX0 35 (-6172840429334713771)) (by decide +kernel)
  have hi0 := ihX0_search_0
  have hD := hD0.self (sz := s.heap.size)
  generalize hAe : va_A (CT cy a J I O R RO (LL ++ Y)) s.heap.size = A at hD ⊢
  have hA : ∀ q : Nat, s.heap.size ≤ q → A q := fun q h => by rw [← hAe]; exact Or.inr h
  have hS : va_S A s.heap s.heap [] := va_S.rf
  have hl := lv_entry ([.ref (a 8), .long x0]) (n := 9) (Nat.le_of_ble_eq_true rfl)
  rw [lg_entry_eq]
  generalize (lg_sl ([.ref (a 8), .long x0]) ++ List.replicate (9 - (lg_sl ([.ref (a 8), .long x0])).length) Slot.unset).toArray = ls at hl ⊢
  have hl : lv_has ls 9 [(0, .ref (a 8)), (1, .long x0)] := hl
  have lp16 : ∀ (n16 : Nat), ∀ (i : Nat) (m0_16 : Int64) (m1_16 : Int64) (m2_16 : Int64) (m3_16 : Int32) (m4_16 : Nat → Int32) (m5_16 : Nat → Int32), (i ≤ 64) → (vp_in m3_16 65) → (Q64 m5_16) → (Q64 m4_16) → (64 - i) < n16 → ∀ (H : Heap) (locs : List Loc), va_P D vwCl (CT cy a (va_up (va_up (va_up J 260 m0_16) 261 m1_16) 262 m2_16) (va_up I 259 m3_16) O (va_up (va_up R 10 m4_16) 11 m5_16) RO (LL ++ Y)) H → va_D A (CT cy a (va_up (va_up (va_up J 260 m0_16) 261 m1_16) 262 m2_16) (va_up I 259 m3_16) O (va_up (va_up R 10 m4_16) 11 m5_16) RO (LL ++ Y)) → va_S A s.heap H locs → ∀ (ls : Array Slot), lv_has ls 9 [(0, .ref (a 8)), (1, .long x0), (3, .int (nI i))] → W p l e (headSpec wsX0_search ({ frames := 3, cells := 0, slots := 0, locals := 66 })).room s m ([.ref (a 8), .long x0] : List Value).toArray below meth c H locs 0 0 (MQ below (va_Qi (fun r (u : TS) => ∃ (w0 : Int64), ∃ (w1 : Int64), ∃ (w2 : Int64), ∃ (w3 : Int32), ∃ (w4 : Nat → Int32), ∃ (w5 : Nat → Int32), ((Q64 w5) ∧ (Q64 w4) ∧ (m1in r)) ∧ u = ((va_up (va_up (va_up J 260 w0) 261 w1) 262 w2), (va_up I 259 w3), O, (va_up (va_up R 10 w4) 11 w5), RO, LL, Y)) (BW D A (CTu cy a)) A) ([.ref (a 8), .long x0] : List Value).toArray s 0 0 A) (F0 m 16 ls []) := by
    intro n16
    induction n16 with
    | zero => intro i m0_16 m1_16 m2_16 m3_16 m4_16 m5_16 hi hq hQ hF hn; exact absurd hn (Nat.not_lt_zero _)
    | succ n16 ih16 =>
      intro i m0_16 m1_16 m2_16 m3_16 m4_16 m5_16 hi hq hQ hF hn16 H locs hP hD hS ls hl
      have lp84 : ∀ (n84 : Nat), ∀ (l9 : Nat) (d9 : Nat) (v5_84 : Int64) (v7_84 : Int32) (m0_84 : Int64) (m1_84 : Int64) (m2_84 : Int64) (m3_84 : Int32) (m4_84 : Nat → Int32) (m5_84 : Nat → Int32), (l9 ≤ 64) → (i < 64) → (d9 < 64) → (v7_84 ≤ 63) → (vp_in m3_84 65) → (Q64 m5_84) → (Q64 m4_84) → (64 - l9) < n84 → ∀ (H : Heap) (locs : List Loc), va_P D vwCl (CT cy a (va_up (va_up (va_up J 260 m0_84) 261 m1_84) 262 m2_84) (va_up I 259 m3_84) O (va_up (va_up R 10 m4_84) 11 m5_84) RO (LL ++ Y)) H → va_D A (CT cy a (va_up (va_up (va_up J 260 m0_84) 261 m1_84) 262 m2_84) (va_up I 259 m3_84) O (va_up (va_up R 10 m4_84) 11 m5_84) RO (LL ++ Y)) → va_S A s.heap H locs → ∀ (ls : Array Slot), lv_has ls 9 [(0, .ref (a 8)), (1, .long x0), (3, .int (nI i)), (4, .int (nI d9)), (5, .long v5_84), (7, .int v7_84), (8, .int (nI l9))] → W p l e (headSpec wsX0_search ({ frames := 3, cells := 0, slots := 0, locals := 66 })).room s m ([.ref (a 8), .long x0] : List Value).toArray below meth c H locs 0 0 (MQ below (va_Qi (fun r (u : TS) => ∃ (w0 : Int64), ∃ (w1 : Int64), ∃ (w2 : Int64), ∃ (w3 : Int32), ∃ (w4 : Nat → Int32), ∃ (w5 : Nat → Int32), ((Q64 w5) ∧ (Q64 w4) ∧ (m1in r)) ∧ u = ((va_up (va_up (va_up J 260 w0) 261 w1) 262 w2), (va_up I 259 w3), O, (va_up (va_up R 10 w4) 11 w5), RO, LL, Y)) (BW D A (CTu cy a)) A) ([.ref (a 8), .long x0] : List Value).toArray s 0 0 A) (F0 m 84 ls []) := by
        intro n84
        induction n84 with
        | zero => intro l9 d9 v5_84 v7_84 m0_84 m1_84 m2_84 m3_84 m4_84 m5_84 hl9 hlt_i hd9 hv7 hq hQ hF hn; exact absurd hn (Nat.not_lt_zero _)
        | succ n84 ih84 =>
          intro l9 d9 v5_84 v7_84 m0_84 m1_84 m2_84 m3_84 m4_84 m5_84 hl9 hlt_i hd9 hv7 hq hQ hF hn84 H locs hP hD hS ls hl
          refine lv_iload hx hb dX0_search_84 (lv_at hl 6 rfl) ?_
          refine lv_iload hx hb dX0_search_86 (lv_at hl 5 rfl) ?_
          refine lv_icmp_gt (tgt := 154) hx hb dX0_search_88 (by decide) (fun c_1 => ?_) (fun c_1 => ?_)
          · refine lv_iinc (v := nI (i + 1)) (lv' := [(3, .int (nI (i + 1))), (0, .ref (a 8)), (1, .long x0), (4, .int (nI d9)), (5, .long v5_84), (7, .int v7_84), (8, .int (nI l9))]) hx hb dX0_search_154 hl (k := 2) rfl (nI_1 _) (by decide) rfl (fun ls hl => ?_)
            refine lv_goto (tgt := 16) hx hb dX0_search_157 (by decide) ?_
            exact ih16 (i + 1) m0_84 m1_84 m2_84 m3_84 m4_84 m5_84 hlt_i hq hQ hF (lt_dec hlt_i hn16) _ _ hP hD hS ls (lv_sub hl [1, 2, 0] rfl)
          · have hll := lg_lt hv7 hl9 c_1
            refine lv_lload hx hb dX0_search_91 (lv_at hl 4 rfl) ?_
            refine lv_iload hx hb dX0_search_93 (lv_at hl 6 rfl) ?_
            refine kS_i (As := [.long v5_84, .int (nI l9)]) (rest := []) ⟨hx, hb, hml, hown, hts⟩ (c_X1_holds l v5_84 (nI l9)) (va_cwS 2 hts gX0_search_X1_holds rfl rfl rfl (by decide +kernel) ⟨Nat.le_of_ble_eq_true rfl, Nat.le_of_ble_eq_true rfl⟩) rfl hl.1 rfl (Nat.le_of_ble_eq_true rfl) dX0_search_95 ⟨Nat.le_of_ble_eq_true rfl, Nat.le_of_ble_eq_true rfl⟩ ?_
            refine lv_if_eq (tgt := 148) hx hb dX0_search_98 (by decide) (fun c_2 => ?_) (fun c_2 => ?_)
            · replace c_2 := bI_f c_2
              refine lv_iinc (v := nI (l9 + 1)) (lv' := [(8, .int (nI (l9 + 1))), (0, .ref (a 8)), (1, .long x0), (3, .int (nI i)), (4, .int (nI d9)), (5, .long v5_84), (7, .int v7_84)]) hx hb dX0_search_148 hl (k := 6) rfl (nI_1 _) (by decide) rfl (fun ls hl => ?_)
              refine lv_goto (tgt := 84) hx hb dX0_search_151 (by decide) ?_
              exact ih84 (l9 + 1) d9 v5_84 v7_84 m0_84 m1_84 m2_84 m3_84 m4_84 m5_84 hll hlt_i hd9 hv7 hq hQ hF (lt_dec hll hn84) _ _ hP hD hS ls (lv_sub hl [1, 2, 3, 4, 5, 6, 0] rfl)
            · replace c_2 := bI_t c_2
              refine lv_aload_n hx hb dX0_search_101 rfl (lv_at hl 0 rfl) ?_
              refine va_get (D := D) (ci := 0) (v := .ref (a 10)) (C := RX0) (T := TX0) (N := 7) hx hb hts hi0 hown hK hP 8 rfl rfl 1 (by decide) hw0 (fun _ h9 => h9) rfl dX0_search_102 ?_
              refine lv_iload hx hb dX0_search_105 (lv_at hl 6 rfl) ?_
              refine lv_iload hx hb dX0_search_107 (lv_at hl 3 rfl) ?_
              refine va_iast hx hb hK hP hD hS 10 0 rfl rfl (vp_in_nI hll (by decide)) dX0_search_109 (fun H locs hP hD hS => ?_)
              have hP : va_P D vwCl (CT cy a (va_up (va_up (va_up J 260 m0_84) 261 m1_84) 262 m2_84) (va_up I 259 m3_84) O (va_up (va_up R 10 (upd m4_84 (nI l9).toNatClampNeg (nI d9))) 11 m5_84) RO (LL ++ Y)) H := hP
              have hD : va_D A (CT cy a (va_up (va_up (va_up J 260 m0_84) 261 m1_84) 262 m2_84) (va_up I 259 m3_84) O (va_up (va_up R 10 (upd m4_84 (nI l9).toNatClampNeg (nI d9))) 11 m5_84) RO (LL ++ Y)) := hD
              refine lv_aload_n hx hb dX0_search_110 rfl (lv_at hl 0 rfl) ?_
              refine va_get (D := D) (ci := 0) (v := .ref (a 9)) (C := RX0) (T := TX0) (N := 7) hx hb hts hi0 hown hK hP 8 rfl rfl 0 (by decide) hw1 (fun _ h9 => h9) rfl dX0_search_111 ?_
              refine lv_iload hx hb dX0_search_114 (lv_at hl 6 rfl) ?_
              refine va_iald hx hb hK hP 9 0 rfl rfl (vp_in_nI hll (by decide)) dX0_search_116 ?_
              refine lv_iconst (v := (-1)) hx hb dX0_search_117 (by decide) ?_
              refine lv_icmp_ne (tgt := 124) hx hb dX0_search_118 (by decide) (fun c_3 => ?_) (fun c_3 => ?_)
              · refine lv_aload_n hx hb dX0_search_124 rfl (lv_at hl 0 rfl) ?_
                refine lv_dup hx hb dX0_search_125 rfl ?_
                refine va_get (D := D) (ci := 0) (v := .long m0_84) (C := RX0) (T := TX0) (N := 7) hx hb hts hi0 hown hK hP 8 rfl rfl 4 (by decide) hw2 (fun _ h9 => h9) rfl dX0_search_126 ?_
                refine lv_lconst (v := 1) hx hb dX0_search_129 (by decide) ?_
                refine lv_iload hx hb dX0_search_130 (lv_at hl 6 rfl) ?_
                refine lv_lshl (v := (1 : Int64) <<< ((nI l9 : Int32).toInt64 &&& 63)) hx hb dX0_search_132 rfl ?_
                refine lv_lor hx hb dX0_search_133 ?_
                refine va_put (D := D) (ci := 0) (v := .long (m0_84 ||| ((1 : Int64) <<< ((nI l9 : Int32).toInt64 &&& 63)))) (ty := .long) (C := RX0) (T := TX0) (N := 7) hx hb hts hi0 tyX0 tyX0_ok nmX0 hown hK hP hD hS 8 rfl rfl 4 (by decide) hw2 (fun _ h9 => h9) rfl (by decide +kernel) rfl rfl (Nat.le_of_ble_eq_true rfl) dX0_search_134 (fun H locs hP hD hS => ?_)
                have hP : va_P D vwCl (CT cy a (va_up (va_up (va_up J 260 (m0_84 ||| ((1 : Int64) <<< ((nI l9 : Int32).toInt64 &&& 63)))) 261 m1_84) 262 m2_84) (va_up I 259 m3_84) O (va_up (va_up R 10 (upd m4_84 (nI l9).toNatClampNeg (nI d9))) 11 m5_84) RO (LL ++ Y)) H := hP
                have hD : va_D A (CT cy a (va_up (va_up (va_up J 260 (m0_84 ||| ((1 : Int64) <<< ((nI l9 : Int32).toInt64 &&& 63)))) 261 m1_84) 262 m2_84) (va_up I 259 m3_84) O (va_up (va_up R 10 (upd m4_84 (nI l9).toNatClampNeg (nI d9))) 11 m5_84) RO (LL ++ Y)) := hD
                refine lv_aload_n hx hb dX0_search_137 rfl (lv_at hl 0 rfl) ?_
                refine lv_aload_n hx hb dX0_search_138 rfl (lv_at hl 0 rfl) ?_
                refine va_get (D := D) (ci := 0) (v := .ref (a 9)) (C := RX0) (T := TX0) (N := 7) hx hb hts hi0 hown hK hP 8 rfl rfl 0 (by decide) hw1 (fun _ h9 => h9) rfl dX0_search_139 ?_
                refine lv_iload hx hb dX0_search_142 (lv_at hl 6 rfl) ?_
                refine va_iald hx hb hK hP 9 0 rfl rfl (vp_in_nI hll (by decide)) dX0_search_144 ?_
                refine kM_v (As := [.int ((R 9) (nI l9).toNatClampNeg)]) (rest := []) (q0 := 8) ⟨hx, hb, hml, hown, hts⟩ (t_X0_enqueue l D cy a _ (va_up (va_up (va_up J 260 (m0_84 ||| ((1 : Int64) <<< ((nI l9 : Int32).toInt64 &&& 63)))) 261 m1_84) 262 m2_84) (va_up I 259 m3_84) O (va_up (va_up R 10 (upd m4_84 (nI l9).toNatClampNeg (nI d9))) 11 m5_84) RO LL Y ((R 9) (nI l9).toNatClampNeg) (rg_in hG hll c_3) hq hQ  ) (cwV 1 hts gX0_search_X0_enqueue rfl rfl rfl (by decide +kernel) ⟨Nat.le_of_ble_eq_true rfl, Nat.le_of_ble_eq_true rfl⟩) hK hN hP hD hS hA rfl rfl rfl hl.1 rfl (Nat.le_of_ble_eq_true rfl) dX0_search_145 ⟨Nat.le_of_ble_eq_true rfl, Nat.le_of_ble_eq_true rfl⟩ (fun u H locs hw hP hD hS => ?_)
                obtain ⟨w_5, w_6, w_7, ⟨hp_8, hp_9⟩, rfl⟩ := hw
                have hP : va_P D vwCl (CT cy a (va_up (va_up (va_up J 260 (m0_84 ||| ((1 : Int64) <<< ((nI l9 : Int32).toInt64 &&& 63)))) 261 m1_84) 262 w_5) (va_up I 259 w_6) O (va_up (va_up R 10 (upd m4_84 (nI l9).toNatClampNeg (nI d9))) 11 w_7) RO (LL ++ Y)) H := hP
                have hD : va_D A (CT cy a (va_up (va_up (va_up J 260 (m0_84 ||| ((1 : Int64) <<< ((nI l9 : Int32).toInt64 &&& 63)))) 261 m1_84) 262 w_5) (va_up I 259 w_6) O (va_up (va_up R 10 (upd m4_84 (nI l9).toNatClampNeg (nI d9))) 11 w_7) RO (LL ++ Y)) := hD
                refine lv_iinc (v := nI (l9 + 1)) (lv' := [(8, .int (nI (l9 + 1))), (0, .ref (a 8)), (1, .long x0), (3, .int (nI i)), (4, .int (nI d9)), (5, .long v5_84), (7, .int v7_84)]) hx hb dX0_search_148 hl (k := 6) rfl (nI_1 _) (by decide) rfl (fun ls hl => ?_)
                refine lv_goto (tgt := 84) hx hb dX0_search_151 (by decide) ?_
                exact ih84 (l9 + 1) d9 v5_84 v7_84 (m0_84 ||| ((1 : Int64) <<< ((nI l9 : Int32).toInt64 &&& 63))) m1_84 w_5 w_6 (upd m4_84 (nI l9).toNatClampNeg (nI d9)) w_7 hll hlt_i hd9 hv7 hp_8 hp_9 (Q64_up hF (vp_in_nI hd9 (by decide))) (lt_dec hll hn84) _ _ hP hD hS ls (lv_sub hl [1, 2, 3, 4, 5, 6, 0] rfl)
              · refine lv_iload hx hb dX0_search_121 (lv_at hl 6 rfl) ?_
                exact wret_i hx hb hr hlocks ((va_up (va_up (va_up J 260 m0_84) 261 m1_84) 262 m2_84), (va_up I 259 m3_84), O, (va_up (va_up R 10 (upd m4_84 (nI l9).toNatClampNeg (nI d9))) 11 m5_84), RO, LL, Y) ⟨m0_84, m1_84, m2_84, m3_84, (upd m4_84 (nI l9).toNatClampNeg (nI d9)), m5_84, ⟨hQ, (Q64_up hF (vp_in_nI hd9 (by decide))), (Or.inr (vp_in_nI hll (by decide)))⟩, rfl⟩ hP hD hS dX0_search_123
      refine lv_iload_n hx hb dX0_search_16 rfl (lv_at hl 2 rfl) ?_
      refine lv_aload_n hx hb dX0_search_17 rfl (lv_at hl 0 rfl) ?_
      refine va_get (D := D) (ci := 0) (v := .ref (a 11)) (C := RX0) (T := TX0) (N := 7) hx hb hts hi0 hown hK hP 8 rfl rfl 2 (by decide) hw3 (fun _ h9 => h9) rfl dX0_search_18 ?_
      refine va_alen hx hb hK hP 11 0 rfl rfl (v := 64) rfl dX0_search_21 ?_
      refine lv_icmp_ge (tgt := 160) hx hb dX0_search_22 (by decide) (fun c_10 => ?_) (fun c_10 => ?_)
      · refine lv_iconst (v := (-1)) hx hb dX0_search_160 (by decide) ?_
        exact wret_i hx hb hr hlocks ((va_up (va_up (va_up J 260 m0_16) 261 m1_16) 262 m2_16), (va_up I 259 m3_16), O, (va_up (va_up R 10 m4_16) 11 m5_16), RO, LL, Y) ⟨m0_16, m1_16, m2_16, m3_16, m4_16, m5_16, ⟨hQ, hF, (Or.inl rfl)⟩, rfl⟩ hP hD hS dX0_search_161
      · have hlt_i := ctr_lt (N := 64) (by decide) hi c_10
        refine lv_iload_n hx hb dX0_search_25 rfl (lv_at hl 2 rfl) ?_
        refine lv_aload_n hx hb dX0_search_26 rfl (lv_at hl 0 rfl) ?_
        refine va_get (D := D) (ci := 0) (v := .int m3_16) (C := RX0) (T := TX0) (N := 7) hx hb hts hi0 hown hK hP 8 rfl rfl 3 (by decide) hw4 (fun _ h9 => h9) rfl dX0_search_27 ?_
        refine lv_icmp_ge (tgt := 160) hx hb dX0_search_30 (by decide) (fun c_11 => ?_) (fun c_11 => ?_)
        · refine lv_iconst (v := (-1)) hx hb dX0_search_160 (by decide) ?_
          exact wret_i hx hb hr hlocks ((va_up (va_up (va_up J 260 m0_16) 261 m1_16) 262 m2_16), (va_up I 259 m3_16), O, (va_up (va_up R 10 m4_16) 11 m5_16), RO, LL, Y) ⟨m0_16, m1_16, m2_16, m3_16, m4_16, m5_16, ⟨hQ, hF, (Or.inl rfl)⟩, rfl⟩ hP hD hS dX0_search_161
        · refine lv_aload_n hx hb dX0_search_33 rfl (lv_at hl 0 rfl) ?_
          refine va_get (D := D) (ci := 0) (v := .ref (a 11)) (C := RX0) (T := TX0) (N := 7) hx hb hts hi0 hown hK hP 8 rfl rfl 2 (by decide) hw3 (fun _ h9 => h9) rfl dX0_search_34 ?_
          refine lv_iload_n hx hb dX0_search_37 rfl (lv_at hl 2 rfl) ?_
          refine va_iald hx hb hK hP 11 0 rfl rfl (vp_in_nI hlt_i (by decide)) dX0_search_38 ?_
          obtain ⟨d9, hd9, ed9⟩ := vp_in_of (hQ _ (in_lt (vp_in_nI hlt_i (by decide)))) (by decide)
          refine wtop_i (y := nI d9) ed9 ?_
          refine lv_istore (lv' := [(4, .int (nI d9)), (0, .ref (a 8)), (1, .long x0), (3, .int (nI i))]) hx hb dX0_search_39 hl (by decide) rfl (fun ls hl => ?_)
          refine lv_lconst (v := 1) hx hb dX0_search_41 (by decide) ?_
          refine lv_iload hx hb dX0_search_42 (lv_at hl 0 rfl) ?_
          refine lv_lshl (v := (1 : Int64) <<< ((nI d9 : Int32).toInt64 &&& 63)) hx hb dX0_search_44 rfl ?_
          refine kSa_l (As := [.long ((1 : Int64) <<< ((nI d9 : Int32).toInt64 &&& 63))]) (rest := []) ⟨hx, hb, hml, hown, hts⟩ (t_X1_beside l ((1 : Int64) <<< ((nI d9 : Int32).toInt64 &&& 63)) ) (va_cwS 1 hts gX0_search_X1_beside rfl rfl rfl (by decide +kernel) ⟨Nat.le_of_ble_eq_true rfl, Nat.le_of_ble_eq_true rfl⟩) rfl hl.1 rfl (Nat.le_of_ble_eq_true rfl) dX0_search_45 ⟨Nat.le_of_ble_eq_true rfl, Nat.le_of_ble_eq_true rfl⟩ (fun r_12 hr_13 => ?_)
          refine lv_lload_n hx hb dX0_search_48 rfl (lv_at hl 2 rfl) ?_
          refine lv_land hx hb dX0_search_49 ?_
          refine lv_aload_n hx hb dX0_search_50 rfl (lv_at hl 1 rfl) ?_
          refine va_get (D := D) (ci := 0) (v := .long m0_16) (C := RX0) (T := TX0) (N := 7) hx hb hts hi0 hown hK hP 8 rfl rfl 4 (by decide) hw2 (fun _ h9 => h9) rfl dX0_search_51 ?_
          refine lv_ldc2 (v := (-1)) hx hb hown hw5 dX0_search_54 ?_
          refine lv_lxor hx hb dX0_search_57 ?_
          refine lv_land hx hb dX0_search_58 ?_
          refine lv_lstore (lv' := [(5, .long ((r_12 &&& x0) &&& (m0_16 ^^^ (-1)))), (4, .int (nI d9)), (0, .ref (a 8)), (1, .long x0), (3, .int (nI i))]) hx hb dX0_search_59 hl (by decide) rfl (fun ls hl => ?_)
          refine lv_bipush (v := 63) hx hb dX0_search_61 (by decide) ?_
          refine lv_iload hx hb dX0_search_63 (lv_at hl 1 rfl) ?_
          refine lv_bipush (v := 8) hx hb dX0_search_65 (by decide) ?_
          refine lv_iadd hx hb dX0_search_67 ?_
          refine va_mmin hx hb (by rw [hml]; exact hl.1.symm) hown hw6 hw7 hw8 hw9 (Nat.le_of_ble_eq_true rfl) (Nat.le_of_ble_eq_true rfl) (Nat.le_of_ble_eq_true rfl) (Nat.le_of_ble_eq_true rfl) dX0_search_68 ?_
          refine lv_istore (lv' := [(7, .int (if ((nI d9) + 8) < 63 then ((nI d9) + 8) else 63)), (5, .long ((r_12 &&& x0) &&& (m0_16 ^^^ (-1)))), (4, .int (nI d9)), (0, .ref (a 8)), (1, .long x0), (3, .int (nI i))]) hx hb dX0_search_71 hl (by decide) rfl (fun ls hl => ?_)
          refine lv_iconst (v := 0) hx hb dX0_search_73 (by decide) ?_
          refine lv_iload hx hb dX0_search_74 (lv_at hl 2 rfl) ?_
          refine lv_bipush (v := 8) hx hb dX0_search_76 (by decide) ?_
          refine lv_isub hx hb dX0_search_78 ?_
          refine va_mmax hx hb (by rw [hml]; exact hl.1.symm) hown hw10 hw11 hw8 hw12 (Nat.le_of_ble_eq_true rfl) (Nat.le_of_ble_eq_true rfl) (Nat.le_of_ble_eq_true rfl) (Nat.le_of_ble_eq_true rfl) dX0_search_79 ?_
          obtain ⟨l0, hl0, el0⟩ := mx_ex hd9
          refine wtop_i (y := nI l0) el0 ?_
          refine lv_istore (lv' := [(8, .int (nI l0)), (7, .int (if ((nI d9) + 8) < 63 then ((nI d9) + 8) else 63)), (5, .long ((r_12 &&& x0) &&& (m0_16 ^^^ (-1)))), (4, .int (nI d9)), (0, .ref (a 8)), (1, .long x0), (3, .int (nI i))]) hx hb dX0_search_82 hl (by decide) rfl (fun ls hl => ?_)
          exact lp84 _ l0 d9 ((r_12 &&& x0) &&& (m0_16 ^^^ (-1))) (if ((nI d9) + 8) < 63 then ((nI d9) + 8) else 63) m0_16 m1_16 m2_16 m3_16 m4_16 m5_16 hl0 hlt_i hd9 mn_le hq hQ hF (Nat.lt_succ_self _) _ _ hP hD hS ls (lv_sub hl [4, 5, 6, 3, 2, 1, 0] rfl)
  have hP : va_P D vwCl (CT cy a (va_up (va_up (va_up J 260 (J 260)) 261 (J 261)) 262 (J 262)) (va_up I 259 (I 259)) O (va_up (va_up R 10 (R 10)) 11 (R 11)) RO (LL ++ Y)) s.heap := hP
  have hD : va_D A (CT cy a (va_up (va_up (va_up J 260 (J 260)) 261 (J 261)) 262 (J 262)) (va_up I 259 (I 259)) O (va_up (va_up R 10 (R 10)) 11 (R 11)) RO (LL ++ Y)) := hD
  refine lv_aload_n hx hb dX0_search_0 rfl (lv_at hl 0 rfl) ?_
  refine lv_lload_n hx hb dX0_search_1 rfl (lv_at hl 1 rfl) ?_
  refine lv_ldc2 (v := (-6172840429334713771)) hx hb hown hw13 dX0_search_2 ?_
  refine lv_land hx hb dX0_search_5 ?_
  refine kM_v (As := [.long (x0 &&& (-6172840429334713771))]) (rest := []) (q0 := 8) ⟨hx, hb, hml, hown, hts⟩ (t_X0_queueLeft l D cy a _ (va_up (va_up (va_up J 260 (J 260)) 261 (J 261)) 262 (J 262)) (va_up I 259 (I 259)) O (va_up (va_up R 10 (R 10)) 11 (R 11)) RO LL Y (x0 &&& (-6172840429334713771)) hQ  ) (cwV 1 hts gX0_search_X0_queueLeft rfl rfl rfl (by decide +kernel) ⟨Nat.le_of_ble_eq_true rfl, Nat.le_of_ble_eq_true rfl⟩) hK hN hP hD hS hA rfl rfl rfl hl.1 rfl (Nat.le_of_ble_eq_true rfl) dX0_search_6 ⟨Nat.le_of_ble_eq_true rfl, Nat.le_of_ble_eq_true rfl⟩ (fun u H locs hw hP hD hS => ?_)
  obtain ⟨w_15, w_16, w_17, w_18, ⟨hp_19, hp_20⟩, rfl⟩ := hw
  have hP : va_P D vwCl (CT cy a (va_up (va_up (va_up J 260 (J 260)) 261 w_15) 262 w_16) (va_up I 259 w_17) O (va_up (va_up R 10 (R 10)) 11 w_18) RO (LL ++ Y)) H := hP
  have hD : va_D A (CT cy a (va_up (va_up (va_up J 260 (J 260)) 261 w_15) 262 w_16) (va_up I 259 w_17) O (va_up (va_up R 10 (R 10)) 11 w_18) RO (LL ++ Y)) := hD
  refine lv_aload_n hx hb dX0_search_9 rfl (lv_at hl 0 rfl) ?_
  refine lv_lconst (v := 0) hx hb dX0_search_10 (by decide) ?_
  refine va_put (D := D) (ci := 0) (v := .long 0) (ty := .long) (C := RX0) (T := TX0) (N := 7) hx hb hts hi0 tyX0 tyX0_ok nmX0 hown hK hP hD hS 8 rfl rfl 4 (by decide) hw2 (fun _ h9 => h9) rfl (by decide +kernel) rfl rfl (Nat.le_of_ble_eq_true rfl) dX0_search_11 (fun H locs hP hD hS => ?_)
  have hP : va_P D vwCl (CT cy a (va_up (va_up (va_up J 260 0) 261 w_15) 262 w_16) (va_up I 259 w_17) O (va_up (va_up R 10 (R 10)) 11 w_18) RO (LL ++ Y)) H := hP
  have hD : va_D A (CT cy a (va_up (va_up (va_up J 260 0) 261 w_15) 262 w_16) (va_up I 259 w_17) O (va_up (va_up R 10 (R 10)) 11 w_18) RO (LL ++ Y)) := hD
  refine lv_iconst (v := 0) hx hb dX0_search_14 (by decide) ?_
  refine lv_istore_n (lv' := [(3, .int 0), (0, .ref (a 8)), (1, .long x0)]) hx hb dX0_search_15 rfl hl (by decide) rfl (fun ls hl => ?_)
  exact lp16 _ 0 0 w_15 w_16 w_17 (R 10) w_18 (by omega) hp_19 hp_20 hF (Nat.lt_succ_self _) _ _ hP hD hS ls (lv_sub hl [1, 2, 0] rfl)
theorem dX0_shift_4 : decode cX0_shift 4 = .ok (.iload_n 2, 1) := by decide +kernel
theorem dX0_shift_5 : decode cX0_shift 5 = .ok (.iconst (-1), 1) := by decide +kernel
theorem dX0_shift_6 : decode cX0_shift 6 = .ok (.if_icmp .eq 51, 3) := by decide +kernel
theorem dX0_shift_57 : decode cX0_shift 57 = .ok (.return_, 1) := by decide +kernel
theorem dX0_shift_9 : decode cX0_shift 9 = .ok (.iload_n 3, 1) := by decide +kernel
theorem dX0_shift_10 : decode cX0_shift 10 = .ok (.bipush 64, 2) := by decide +kernel
theorem dX0_shift_12 : decode cX0_shift 12 = .ok (.if_icmp .ge 45, 3) := by decide +kernel
theorem dX0_shift_15 : decode cX0_shift 15 = .ok (.aload_n 0, 1) := by decide +kernel
theorem dX0_shift_16 : decode cX0_shift 16 = .ok (.getfield 13, 3) := by decide +kernel
theorem dX0_shift_19 : decode cX0_shift 19 = .ok (.iload_n 2, 1) := by decide +kernel
theorem dX0_shift_20 : decode cX0_shift 20 = .ok (.iaload, 1) := by decide +kernel
theorem dX0_shift_21 : decode cX0_shift 21 = .ok (.istore 4, 2) := by decide +kernel
theorem dX0_shift_23 : decode cX0_shift 23 = .ok (.aload_n 0, 1) := by decide +kernel
theorem dX0_shift_24 : decode cX0_shift 24 = .ok (.getfield 7, 3) := by decide +kernel
theorem dX0_shift_27 : decode cX0_shift 27 = .ok (.iload 4, 2) := by decide +kernel
theorem dX0_shift_29 : decode cX0_shift 29 = .ok (.iaload, 1) := by decide +kernel
theorem dX0_shift_30 : decode cX0_shift 30 = .ok (.istore 5, 2) := by decide +kernel
theorem dX0_shift_32 : decode cX0_shift 32 = .ok (.aload_n 0, 1) := by decide +kernel
theorem dX0_shift_33 : decode cX0_shift 33 = .ok (.getfield 7, 3) := by decide +kernel
theorem dX0_shift_36 : decode cX0_shift 36 = .ok (.iload 4, 2) := by decide +kernel
theorem dX0_shift_38 : decode cX0_shift 38 = .ok (.iload_n 2, 1) := by decide +kernel
theorem dX0_shift_39 : decode cX0_shift 39 = .ok (.iastore, 1) := by decide +kernel
theorem dX0_shift_40 : decode cX0_shift 40 = .ok (.aload_n 0, 1) := by decide +kernel
theorem dX0_shift_41 : decode cX0_shift 41 = .ok (.getfield 7, 3) := by decide +kernel
theorem dX0_shift_44 : decode cX0_shift 44 = .ok (.iload_n 2, 1) := by decide +kernel
theorem dX0_shift_45 : decode cX0_shift 45 = .ok (.iload 4, 2) := by decide +kernel
theorem dX0_shift_47 : decode cX0_shift 47 = .ok (.iastore, 1) := by decide +kernel
theorem dX0_shift_48 : decode cX0_shift 48 = .ok (.iload 5, 2) := by decide +kernel
theorem dX0_shift_50 : decode cX0_shift 50 = .ok (.istore_n 2, 1) := by decide +kernel
theorem dX0_shift_51 : decode cX0_shift 51 = .ok (.iinc 3 1, 3) := by decide +kernel
theorem dX0_shift_54 : decode cX0_shift 54 = .ok (.goto (-50), 3) := by decide +kernel
theorem dX0_shift_0 : decode cX0_shift 0 = .ok (.iload_n 1, 1) := by decide +kernel
theorem dX0_shift_1 : decode cX0_shift 1 = .ok (.istore_n 2, 1) := by decide +kernel
theorem dX0_shift_2 : decode cX0_shift 2 = .ok (.iconst 0, 1) := by decide +kernel
theorem dX0_shift_3 : decode cX0_shift 3 = .ok (.istore_n 3, 1) := by decide +kernel
set_option maxRecDepth 20000 in
theorem ihX0_shift_0 : ∀ w ∈ u_ws RX0 TX0 7, w ∈ wsX0_shift := fun _ h => List.mem_cons_of_mem _ (List.mem_append_right _ h)
set_option maxHeartbeats 4000000 in
set_option maxRecDepth 100000 in
theorem t_X0_shift (l : Launch) (D : va_G) (cy : Nat → ClassId) (a : Nat → Nat) (sz : Nat) (J : Nat → Int64) (I : Nat → Int32) (O : Nat → Option Nat) (R : Nat → Nat → Int32) (RO : Nat → Nat → Option Nat) (LL : va_W) (Y : va_W) (x0 : Int32) (hx0 : m1in x0) (hG : RG (R 9)) (hF : Q64 (R 10)) : Met l yX0_shift wsX0_shift ({ frames := 0, cells := 0, slots := 0, locals := 0 }) (va_Pc [.ref (a 8), .int x0] (PW D cy sz (CT cy a J I O R RO (LL ++ Y)))) (va_Qv (fun (u : TS) => ∃ (w0 : Nat → Int32), ((RG w0)) ∧ u = (J, I, O, (va_up R 9 w0), RO, LL, Y)) (BW D (va_A (CT cy a J I O R RO (LL ++ Y)) sz) (CTu cy a)) (va_A (CT cy a J I O R RO (LL ++ Y)) sz)) 0 0 (va_A (CT cy a J I O R RO (LL ++ Y)) sz) := by
  refine Met.ofW (cc := cX0_shift) (maxL := 6) (ret := none) (by decide) rfl ?_
  intro p e s m args below meth c s₁ B hml hv
  obtain ⟨rfl, rfl, hP, hK, hN, hD0⟩ := hv
  have hx := B.exec
  have hb := B.bytes
  have hr := B.returns
  have hts := atoms_spec (ws := wsX0_shift) B.pre
  have hown : s.vm.findClass RX0 = some m.cls := findClass_of_methodNamed B.named
  have hlocks := B.notSynchronized
  have hw0 := hts (.fieldLink RX0 13 "ParquetLayer$Covering" "reachedFrom" "[I") (by decide +kernel)
  have hw1 := hts (.fieldLink RX0 7 "ParquetLayer$Covering" "mate" "[I") (by decide +kernel)
  have hi0 := ihX0_shift_0
  have hD := hD0.self (sz := s.heap.size)
  generalize hAe : va_A (CT cy a J I O R RO (LL ++ Y)) s.heap.size = A at hD ⊢
  have hA : ∀ q : Nat, s.heap.size ≤ q → A q := fun q h => by rw [← hAe]; exact Or.inr h
  have hS : va_S A s.heap s.heap [] := va_S.rf
  have hl := lv_entry ([.ref (a 8), .int x0]) (n := 6) (Nat.le_of_ble_eq_true rfl)
  rw [lg_entry_eq]
  generalize (lg_sl ([.ref (a 8), .int x0]) ++ List.replicate (6 - (lg_sl ([.ref (a 8), .int x0])).length) Slot.unset).toArray = ls at hl ⊢
  have hl : lv_has ls 6 [(0, .ref (a 8)), (1, .int x0)] := hl
  have lp4 : ∀ (n4 : Nat), ∀ (i : Nat) (v2_4 : Int32) (m0_4 : Nat → Int32), (i ≤ 64) → (RG m0_4) → (m1in v2_4) → (64 - i) < n4 → ∀ (H : Heap) (locs : List Loc), va_P D vwCl (CT cy a J I O (va_up R 9 m0_4) RO (LL ++ Y)) H → va_D A (CT cy a J I O (va_up R 9 m0_4) RO (LL ++ Y)) → va_S A s.heap H locs → ∀ (ls : Array Slot), lv_has ls 6 [(0, .ref (a 8)), (2, .int v2_4), (3, .int (nI i))] → W p l e (headSpec wsX0_shift ({ frames := 0, cells := 0, slots := 0, locals := 0 })).room s m ([.ref (a 8), .int x0] : List Value).toArray below meth c H locs 0 0 (MQ below (va_Qv (fun (u : TS) => ∃ (w0 : Nat → Int32), ((RG w0)) ∧ u = (J, I, O, (va_up R 9 w0), RO, LL, Y)) (BW D A (CTu cy a)) A) ([.ref (a 8), .int x0] : List Value).toArray s 0 0 A) (F0 m 4 ls []) := by
    intro n4
    induction n4 with
    | zero => intro i v2_4 m0_4 hi hG hv hn; exact absurd hn (Nat.not_lt_zero _)
    | succ n4 ih4 =>
      intro i v2_4 m0_4 hi hG hv hn4 H locs hP hD hS ls hl
      refine lv_iload_n hx hb dX0_shift_4 rfl (lv_at hl 1 rfl) ?_
      refine lv_iconst (v := (-1)) hx hb dX0_shift_5 (by decide) ?_
      refine lv_icmp_eq (tgt := 57) hx hb dX0_shift_6 (by decide) (fun c_1 => ?_) (fun c_1 => ?_)
      · exact wret_v hx hb hr hlocks (J, I, O, (va_up R 9 m0_4), RO, LL, Y) ⟨m0_4, hG, rfl⟩ hP hD hS dX0_shift_57
      · obtain ⟨l9, hl9, rfl⟩ := vp_in_of (m1_p hv c_1) (by decide)
        refine lv_iload_n hx hb dX0_shift_9 rfl (lv_at hl 2 rfl) ?_
        refine lv_bipush (v := 64) hx hb dX0_shift_10 (by decide) ?_
        refine lv_icmp_ge (tgt := 57) hx hb dX0_shift_12 (by decide) (fun c_2 => ?_) (fun c_2 => ?_)
        · exact wret_v hx hb hr hlocks (J, I, O, (va_up R 9 m0_4), RO, LL, Y) ⟨m0_4, hG, rfl⟩ hP hD hS dX0_shift_57
        · have hlt_i := ctr_lt (N := 64) (by decide) hi c_2
          refine lv_aload_n hx hb dX0_shift_15 rfl (lv_at hl 0 rfl) ?_
          refine va_get (D := D) (ci := 0) (v := .ref (a 10)) (C := RX0) (T := TX0) (N := 7) hx hb hts hi0 hown hK hP 8 rfl rfl 1 (by decide) hw0 (fun _ h9 => h9) rfl dX0_shift_16 ?_
          refine lv_iload_n hx hb dX0_shift_19 rfl (lv_at hl 1 rfl) ?_
          refine va_iald hx hb hK hP 10 0 rfl rfl (vp_in_nI hl9 (by decide)) dX0_shift_20 ?_
          obtain ⟨d9, hd9, ed9⟩ := vp_in_of (hF _ (in_lt (vp_in_nI hl9 (by decide)))) (by decide)
          refine wtop_i (y := nI d9) ed9 ?_
          refine lv_istore (lv' := [(4, .int (nI d9)), (0, .ref (a 8)), (2, .int (nI l9)), (3, .int (nI i))]) hx hb dX0_shift_21 hl (by decide) rfl (fun ls hl => ?_)
          refine lv_aload_n hx hb dX0_shift_23 rfl (lv_at hl 1 rfl) ?_
          refine va_get (D := D) (ci := 0) (v := .ref (a 9)) (C := RX0) (T := TX0) (N := 7) hx hb hts hi0 hown hK hP 8 rfl rfl 0 (by decide) hw1 (fun _ h9 => h9) rfl dX0_shift_24 ?_
          refine lv_iload hx hb dX0_shift_27 (lv_at hl 0 rfl) ?_
          refine va_iald hx hb hK hP 9 0 rfl rfl (vp_in_nI hd9 (by decide)) dX0_shift_29 ?_
          refine lv_istore (lv' := [(5, .int (m0_4 (nI d9).toNatClampNeg)), (4, .int (nI d9)), (0, .ref (a 8)), (2, .int (nI l9)), (3, .int (nI i))]) hx hb dX0_shift_30 hl (by decide) rfl (fun ls hl => ?_)
          refine lv_aload_n hx hb dX0_shift_32 rfl (lv_at hl 2 rfl) ?_
          refine va_get (D := D) (ci := 0) (v := .ref (a 9)) (C := RX0) (T := TX0) (N := 7) hx hb hts hi0 hown hK hP 8 rfl rfl 0 (by decide) hw1 (fun _ h9 => h9) rfl dX0_shift_33 ?_
          refine lv_iload hx hb dX0_shift_36 (lv_at hl 1 rfl) ?_
          refine lv_iload_n hx hb dX0_shift_38 rfl (lv_at hl 3 rfl) ?_
          refine va_iast hx hb hK hP hD hS 9 0 rfl rfl (vp_in_nI hd9 (by decide)) dX0_shift_39 (fun H locs hP hD hS => ?_)
          have hP : va_P D vwCl (CT cy a J I O (va_up R 9 (upd m0_4 (nI d9).toNatClampNeg (nI l9))) RO (LL ++ Y)) H := hP
          have hD : va_D A (CT cy a J I O (va_up R 9 (upd m0_4 (nI d9).toNatClampNeg (nI l9))) RO (LL ++ Y)) := hD
          obtain ⟨U9, hU9⟩ : ∃ z, z = (upd m0_4 (nI d9).toNatClampNeg (nI l9)) := ⟨_, rfl⟩
          rw [← hU9] at hP hD
          have hP : va_P D vwCl (CT cy a J I O (va_up R 9 U9) RO (LL ++ Y)) H := hP
          have hD : va_D A (CT cy a J I O (va_up R 9 U9) RO (LL ++ Y)) := hD
          refine lv_aload_n hx hb dX0_shift_40 rfl (lv_at hl 2 rfl) ?_
          refine va_get (D := D) (ci := 0) (v := .ref (a 9)) (C := RX0) (T := TX0) (N := 7) hx hb hts hi0 hown hK hP 8 rfl rfl 0 (by decide) hw1 (fun _ h9 => h9) rfl dX0_shift_41 ?_
          refine lv_iload_n hx hb dX0_shift_44 rfl (lv_at hl 3 rfl) ?_
          refine lv_iload hx hb dX0_shift_45 (lv_at hl 1 rfl) ?_
          refine va_iast hx hb hK hP hD hS 9 0 rfl rfl (vp_in_nI hl9 (by decide)) dX0_shift_47 (fun H locs hP hD hS => ?_)
          have hP : va_P D vwCl (CT cy a J I O (va_up R 9 (upd U9 (nI l9).toNatClampNeg (nI d9))) RO (LL ++ Y)) H := hP
          have hD : va_D A (CT cy a J I O (va_up R 9 (upd U9 (nI l9).toNatClampNeg (nI d9))) RO (LL ++ Y)) := hD
          refine lv_iload hx hb dX0_shift_48 (lv_at hl 0 rfl) ?_
          refine lv_istore_n (lv' := [(2, .int (m0_4 (nI d9).toNatClampNeg)), (5, .int (m0_4 (nI d9).toNatClampNeg)), (4, .int (nI d9)), (0, .ref (a 8)), (3, .int (nI i))]) hx hb dX0_shift_50 rfl hl (by decide) rfl (fun ls hl => ?_)
          refine lv_iinc (v := nI (i + 1)) (lv' := [(3, .int (nI (i + 1))), (2, .int (m0_4 (nI d9).toNatClampNeg)), (5, .int (m0_4 (nI d9).toNatClampNeg)), (4, .int (nI d9)), (0, .ref (a 8))]) hx hb dX0_shift_51 hl (k := 4) rfl (nI_1 _) (by decide) rfl (fun ls hl => ?_)
          refine lv_goto (tgt := 4) hx hb dX0_shift_54 (by decide) ?_
          exact ih4 (i + 1) (m0_4 (nI d9).toNatClampNeg) (upd U9 (nI l9).toNatClampNeg (nI d9)) hlt_i (by rw [hU9]; exact rg_up (rg_up hG hl9) hd9) (rg_v hG hd9) (lt_dec hlt_i hn4) _ _ hP hD hS ls (lv_sub hl [4, 1, 0] rfl)
  have hP : va_P D vwCl (CT cy a J I O (va_up R 9 (R 9)) RO (LL ++ Y)) s.heap := hP
  have hD : va_D A (CT cy a J I O (va_up R 9 (R 9)) RO (LL ++ Y)) := hD
  refine lv_iload_n hx hb dX0_shift_0 rfl (lv_at hl 1 rfl) ?_
  refine lv_istore_n (lv' := [(2, .int x0), (0, .ref (a 8)), (1, .int x0)]) hx hb dX0_shift_1 rfl hl (by decide) rfl (fun ls hl => ?_)
  refine lv_iconst (v := 0) hx hb dX0_shift_2 (by decide) ?_
  refine lv_istore_n (lv' := [(3, .int 0), (2, .int x0), (0, .ref (a 8)), (1, .int x0)]) hx hb dX0_shift_3 rfl hl (by decide) rfl (fun ls hl => ?_)
  exact lp4 _ 0 x0 (R 9) (by omega) hG hx0 (Nat.lt_succ_self _) _ _ hP hD hS ls (lv_sub hl [2, 1, 0] rfl)
theorem dX0_cover_17 : decode cX0_cover 17 = .ok (.iload_n 3, 1) := by decide +kernel
theorem dX0_cover_18 : decode cX0_cover 18 = .ok (.iconst (-1), 1) := by decide +kernel
theorem dX0_cover_19 : decode cX0_cover 19 = .ok (.if_icmp .eq 27, 3) := by decide +kernel
theorem dX0_cover_46 : decode cX0_cover 46 = .ok (.return_, 1) := by decide +kernel
theorem dX0_cover_22 : decode cX0_cover 22 = .ok (.iload 4, 2) := by decide +kernel
theorem dX0_cover_24 : decode cX0_cover 24 = .ok (.bipush 33, 2) := by decide +kernel
theorem dX0_cover_26 : decode cX0_cover 26 = .ok (.if_icmp .ge 20, 3) := by decide +kernel
theorem dX0_cover_29 : decode cX0_cover 29 = .ok (.aload_n 0, 1) := by decide +kernel
theorem dX0_cover_30 : decode cX0_cover 30 = .ok (.iload_n 3, 1) := by decide +kernel
set_option maxRecDepth 20000 in
theorem ggX0_cover_X0_shift : GoodIn wsX0_cover wsX0_shift := goodIn_r _ [46, 23, 1, 47, 48, 49, 50, 51, 52, 53] rfl (by decide +kernel)
set_option maxRecDepth 20000 in
theorem gX0_cover_X0_shift : GoodIn wsX0_cover (wsV RX0 29 RX0 yX0_shift wsX0_shift) := goodIn_app (goodIn_r _ [43, 44, 45, 9] rfl (by decide +kernel)) ggX0_cover_X0_shift
theorem dX0_cover_31 : decode cX0_cover 31 = .ok (.invokevirtual 29, 3) := by decide +kernel
theorem dX0_cover_34 : decode cX0_cover 34 = .ok (.aload_n 0, 1) := by decide +kernel
theorem dX0_cover_35 : decode cX0_cover 35 = .ok (.lload_n 1, 1) := by decide +kernel
set_option maxRecDepth 20000 in
theorem ggX0_cover_X0_search : GoodIn wsX0_cover wsX0_search := goodIn_r _ [10, 11, 12, 13, 14, 15, 16, 17, 18, 19, 20, 21, 22, 23, 1, 24, 25, 26, 9, 27, 28, 29, 30, 31, 32, 33, 34, 35, 36, 37, 38, 39, 40, 41, 42, 47, 48, 49, 50, 51, 52, 53] rfl (by decide +kernel)
set_option maxRecDepth 20000 in
theorem gX0_cover_X0_search : GoodIn wsX0_cover (wsV RX0 25 RX0 yX0_search wsX0_search) := goodIn_app (goodIn_r _ [6, 7, 8, 9] rfl (by decide +kernel)) ggX0_cover_X0_search
theorem dX0_cover_36 : decode cX0_cover 36 = .ok (.invokevirtual 25, 3) := by decide +kernel
theorem dX0_cover_39 : decode cX0_cover 39 = .ok (.istore_n 3, 1) := by decide +kernel
theorem dX0_cover_40 : decode cX0_cover 40 = .ok (.iinc 4 1, 3) := by decide +kernel
theorem dX0_cover_43 : decode cX0_cover 43 = .ok (.goto (-26), 3) := by decide +kernel
theorem dX0_cover_0 : decode cX0_cover 0 = .ok (.aload_n 0, 1) := by decide +kernel
theorem dX0_cover_1 : decode cX0_cover 1 = .ok (.getfield 7, 3) := by decide +kernel
theorem dX0_cover_4 : decode cX0_cover 4 = .ok (.iconst (-1), 1) := by decide +kernel
set_option maxRecDepth 20000 in
theorem ggX0_cover_J7_fill_53178 : GoodIn wsX0_cover wsJ7_fill_53178 := goodIn_r _ [5] rfl (by decide +kernel)
set_option maxRecDepth 20000 in
theorem gX0_cover_J7_fill_53178 : GoodIn wsX0_cover (va_wsS RX0 19 yJ7_fill_53178 wsJ7_fill_53178) := goodIn_app (goodIn_of _ (by decide +kernel)) ggX0_cover_J7_fill_53178
theorem dX0_cover_5 : decode cX0_cover 5 = .ok (.invokestatic 19, 3) := by decide +kernel
theorem dX0_cover_8 : decode cX0_cover 8 = .ok (.aload_n 0, 1) := by decide +kernel
theorem dX0_cover_9 : decode cX0_cover 9 = .ok (.lload_n 1, 1) := by decide +kernel
theorem dX0_cover_10 : decode cX0_cover 10 = .ok (.invokevirtual 25, 3) := by decide +kernel
theorem dX0_cover_13 : decode cX0_cover 13 = .ok (.istore_n 3, 1) := by decide +kernel
theorem dX0_cover_14 : decode cX0_cover 14 = .ok (.iconst 0, 1) := by decide +kernel
theorem dX0_cover_15 : decode cX0_cover 15 = .ok (.istore 4, 2) := by decide +kernel
set_option maxRecDepth 20000 in
theorem ihX0_cover_0 : ∀ w ∈ u_ws RX0 TX0 7, w ∈ wsX0_cover := fun _ h => List.mem_cons_of_mem _ (List.mem_append_right _ h)
set_option maxHeartbeats 4000000 in
set_option maxRecDepth 100000 in
theorem t_X0_cover (l : Launch) (D : va_G) (cy : Nat → ClassId) (a : Nat → Nat) (sz : Nat) (J : Nat → Int64) (I : Nat → Int32) (O : Nat → Option Nat) (R : Nat → Nat → Int32) (RO : Nat → Nat → Option Nat) (LL : va_W) (Y : va_W) (x0 : Int64) (hQ : Q64 (R 11)) (hF : Q64 (R 10)) : Met l yX0_cover wsX0_cover ({ frames := 4, cells := 0, slots := 0, locals := 94 }) (va_Pc [.ref (a 8), .long x0] (PW D cy sz (CT cy a J I O R RO (LL ++ Y)))) (va_Qv (fun (u : TS) => ∃ (w0 : Int64), ∃ (w1 : Int64), ∃ (w2 : Int64), ∃ (w3 : Int32), ∃ (w4 : Nat → Int32), ∃ (w5 : Nat → Int32), ∃ (w6 : Nat → Int32), ((Q64 w6) ∧ (Q64 w5)) ∧ u = ((va_up (va_up (va_up J 260 w0) 261 w1) 262 w2), (va_up I 259 w3), O, (va_up (va_up (va_up R 9 w4) 10 w5) 11 w6), RO, LL, Y)) (BW D (va_A (CT cy a J I O R RO (LL ++ Y)) sz) (CTu cy a)) (va_A (CT cy a J I O R RO (LL ++ Y)) sz)) 0 0 (va_A (CT cy a J I O R RO (LL ++ Y)) sz) := by
  refine Met.ofW (cc := cX0_cover) (maxL := 5) (ret := none) (by decide) rfl ?_
  intro p e s m args below meth c s₁ B hml hv
  obtain ⟨rfl, rfl, hP, hK, hN, hD0⟩ := hv
  have hx := B.exec
  have hb := B.bytes
  have hr := B.returns
  have hts := atoms_spec (ws := wsX0_cover) B.pre
  have hown : s.vm.findClass RX0 = some m.cls := findClass_of_methodNamed B.named
  have hlocks := B.notSynchronized
  have hw0 := hts (.fieldLink RX0 7 "ParquetLayer$Covering" "mate" "[I") (by decide +kernel)
  have hi0 := ihX0_cover_0
  have hD := hD0.self (sz := s.heap.size)
  generalize hAe : va_A (CT cy a J I O R RO (LL ++ Y)) s.heap.size = A at hD ⊢
  have hA : ∀ q : Nat, s.heap.size ≤ q → A q := fun q h => by rw [← hAe]; exact Or.inr h
  have hS : va_S A s.heap s.heap [] := va_S.rf
  have hl := lv_entry ([.ref (a 8), .long x0]) (n := 5) (Nat.le_of_ble_eq_true rfl)
  rw [lg_entry_eq]
  generalize (lg_sl ([.ref (a 8), .long x0]) ++ List.replicate (5 - (lg_sl ([.ref (a 8), .long x0])).length) Slot.unset).toArray = ls at hl ⊢
  have hl : lv_has ls 5 [(0, .ref (a 8)), (1, .long x0)] := hl
  have lp17 : ∀ (n17 : Nat), ∀ (i : Nat) (v3_17 : Int32) (m0_17 : Int64) (m1_17 : Int64) (m2_17 : Int64) (m3_17 : Int32) (m4_17 : Nat → Int32) (m5_17 : Nat → Int32) (m6_17 : Nat → Int32), (i ≤ 33) → (RG m4_17) → (Q64 m6_17) → (Q64 m5_17) → (m1in v3_17) → (33 - i) < n17 → ∀ (H : Heap) (locs : List Loc), va_P D vwCl (CT cy a (va_up (va_up (va_up J 260 m0_17) 261 m1_17) 262 m2_17) (va_up I 259 m3_17) O (va_up (va_up (va_up R 9 m4_17) 10 m5_17) 11 m6_17) RO (LL ++ Y)) H → va_D A (CT cy a (va_up (va_up (va_up J 260 m0_17) 261 m1_17) 262 m2_17) (va_up I 259 m3_17) O (va_up (va_up (va_up R 9 m4_17) 10 m5_17) 11 m6_17) RO (LL ++ Y)) → va_S A s.heap H locs → ∀ (ls : Array Slot), lv_has ls 5 [(0, .ref (a 8)), (1, .long x0), (3, .int v3_17), (4, .int (nI i))] → W p l e (headSpec wsX0_cover ({ frames := 4, cells := 0, slots := 0, locals := 94 })).room s m ([.ref (a 8), .long x0] : List Value).toArray below meth c H locs 0 0 (MQ below (va_Qv (fun (u : TS) => ∃ (w0 : Int64), ∃ (w1 : Int64), ∃ (w2 : Int64), ∃ (w3 : Int32), ∃ (w4 : Nat → Int32), ∃ (w5 : Nat → Int32), ∃ (w6 : Nat → Int32), ((Q64 w6) ∧ (Q64 w5)) ∧ u = ((va_up (va_up (va_up J 260 w0) 261 w1) 262 w2), (va_up I 259 w3), O, (va_up (va_up (va_up R 9 w4) 10 w5) 11 w6), RO, LL, Y)) (BW D A (CTu cy a)) A) ([.ref (a 8), .long x0] : List Value).toArray s 0 0 A) (F0 m 17 ls []) := by
    intro n17
    induction n17 with
    | zero => intro i v3_17 m0_17 m1_17 m2_17 m3_17 m4_17 m5_17 m6_17 hi hG hQ hF hv hn; exact absurd hn (Nat.not_lt_zero _)
    | succ n17 ih17 =>
      intro i v3_17 m0_17 m1_17 m2_17 m3_17 m4_17 m5_17 m6_17 hi hG hQ hF hv hn17 H locs hP hD hS ls hl
      refine lv_iload_n hx hb dX0_cover_17 rfl (lv_at hl 2 rfl) ?_
      refine lv_iconst (v := (-1)) hx hb dX0_cover_18 (by decide) ?_
      refine lv_icmp_eq (tgt := 46) hx hb dX0_cover_19 (by decide) (fun c_1 => ?_) (fun c_1 => ?_)
      · exact wret_v hx hb hr hlocks ((va_up (va_up (va_up J 260 m0_17) 261 m1_17) 262 m2_17), (va_up I 259 m3_17), O, (va_up (va_up (va_up R 9 m4_17) 10 m5_17) 11 m6_17), RO, LL, Y) ⟨m0_17, m1_17, m2_17, m3_17, m4_17, m5_17, m6_17, ⟨hQ, hF⟩, rfl⟩ hP hD hS dX0_cover_46
      · refine lv_iload hx hb dX0_cover_22 (lv_at hl 3 rfl) ?_
        refine lv_bipush (v := 33) hx hb dX0_cover_24 (by decide) ?_
        refine lv_icmp_ge (tgt := 46) hx hb dX0_cover_26 (by decide) (fun c_2 => ?_) (fun c_2 => ?_)
        · exact wret_v hx hb hr hlocks ((va_up (va_up (va_up J 260 m0_17) 261 m1_17) 262 m2_17), (va_up I 259 m3_17), O, (va_up (va_up (va_up R 9 m4_17) 10 m5_17) 11 m6_17), RO, LL, Y) ⟨m0_17, m1_17, m2_17, m3_17, m4_17, m5_17, m6_17, ⟨hQ, hF⟩, rfl⟩ hP hD hS dX0_cover_46
        · have hlt_i := ctr_lt (N := 33) (by decide) hi c_2
          refine lv_aload_n hx hb dX0_cover_29 rfl (lv_at hl 0 rfl) ?_
          refine lv_iload_n hx hb dX0_cover_30 rfl (lv_at hl 2 rfl) ?_
          refine kM_v (As := [.int v3_17]) (rest := []) (q0 := 8) ⟨hx, hb, hml, hown, hts⟩ (t_X0_shift l D cy a _ (va_up (va_up (va_up J 260 m0_17) 261 m1_17) 262 m2_17) (va_up I 259 m3_17) O (va_up (va_up (va_up R 9 m4_17) 10 m5_17) 11 m6_17) RO LL Y v3_17 hv hG hF  ) (cwV 1 hts gX0_cover_X0_shift rfl rfl rfl (by decide +kernel) ⟨Nat.le_of_ble_eq_true rfl, Nat.le_of_ble_eq_true rfl⟩) hK hN hP hD hS hA rfl rfl rfl hl.1 rfl (Nat.le_of_ble_eq_true rfl) dX0_cover_31 ⟨Nat.le_of_ble_eq_true rfl, Nat.le_of_ble_eq_true rfl⟩ (fun u H locs hw hP hD hS => ?_)
          obtain ⟨w_4, hp_5, rfl⟩ := hw
          have hP : va_P D vwCl (CT cy a (va_up (va_up (va_up J 260 m0_17) 261 m1_17) 262 m2_17) (va_up I 259 m3_17) O (va_up (va_up (va_up R 9 w_4) 10 m5_17) 11 m6_17) RO (LL ++ Y)) H := hP
          have hD : va_D A (CT cy a (va_up (va_up (va_up J 260 m0_17) 261 m1_17) 262 m2_17) (va_up I 259 m3_17) O (va_up (va_up (va_up R 9 w_4) 10 m5_17) 11 m6_17) RO (LL ++ Y)) := hD
          refine lv_aload_n hx hb dX0_cover_34 rfl (lv_at hl 0 rfl) ?_
          refine lv_lload_n hx hb dX0_cover_35 rfl (lv_at hl 1 rfl) ?_
          refine kM_i (As := [.long x0]) (rest := []) (q0 := 8) ⟨hx, hb, hml, hown, hts⟩ (t_X0_search l D cy a _ (va_up (va_up (va_up J 260 m0_17) 261 m1_17) 262 m2_17) (va_up I 259 m3_17) O (va_up (va_up (va_up R 9 w_4) 10 m5_17) 11 m6_17) RO LL Y x0 hp_5 hQ hF  ) (cwV 1 hts gX0_cover_X0_search rfl rfl rfl (by decide +kernel) ⟨Nat.le_of_ble_eq_true rfl, Nat.le_of_ble_eq_true rfl⟩) hK hN hP hD hS hA rfl rfl rfl hl.1 rfl (Nat.le_of_ble_eq_true rfl) dX0_cover_36 ⟨Nat.le_of_ble_eq_true rfl, Nat.le_of_ble_eq_true rfl⟩ (fun r_6 u H locs hw hP hD hS => ?_)
          obtain ⟨w_7, w_8, w_9, w_10, w_11, w_12, ⟨hp_13, hp_14, hp_15⟩, rfl⟩ := hw
          have hP : va_P D vwCl (CT cy a (va_up (va_up (va_up J 260 w_7) 261 w_8) 262 w_9) (va_up I 259 w_10) O (va_up (va_up (va_up R 9 w_4) 10 w_11) 11 w_12) RO (LL ++ Y)) H := hP
          have hD : va_D A (CT cy a (va_up (va_up (va_up J 260 w_7) 261 w_8) 262 w_9) (va_up I 259 w_10) O (va_up (va_up (va_up R 9 w_4) 10 w_11) 11 w_12) RO (LL ++ Y)) := hD
          refine lv_istore_n (lv' := [(3, .int r_6), (0, .ref (a 8)), (1, .long x0), (4, .int (nI i))]) hx hb dX0_cover_39 rfl hl (by decide) rfl (fun ls hl => ?_)
          refine lv_iinc (v := nI (i + 1)) (lv' := [(4, .int (nI (i + 1))), (3, .int r_6), (0, .ref (a 8)), (1, .long x0)]) hx hb dX0_cover_40 hl (k := 3) rfl (nI_1 _) (by decide) rfl (fun ls hl => ?_)
          refine lv_goto (tgt := 17) hx hb dX0_cover_43 (by decide) ?_
          exact ih17 (i + 1) r_6 w_7 w_8 w_9 w_10 w_4 w_11 w_12 hlt_i hp_5 hp_13 hp_14 hp_15 (lt_dec hlt_i hn17) _ _ hP hD hS ls (lv_sub hl [2, 3, 1, 0] rfl)
  have hP : va_P D vwCl (CT cy a (va_up (va_up (va_up J 260 (J 260)) 261 (J 261)) 262 (J 262)) (va_up I 259 (I 259)) O (va_up (va_up (va_up R 9 (R 9)) 10 (R 10)) 11 (R 11)) RO (LL ++ Y)) s.heap := hP
  have hD : va_D A (CT cy a (va_up (va_up (va_up J 260 (J 260)) 261 (J 261)) 262 (J 262)) (va_up I 259 (I 259)) O (va_up (va_up (va_up R 9 (R 9)) 10 (R 10)) 11 (R 11)) RO (LL ++ Y)) := hD
  refine lv_aload_n hx hb dX0_cover_0 rfl (lv_at hl 0 rfl) ?_
  refine va_get (D := D) (ci := 0) (v := .ref (a 9)) (C := RX0) (T := TX0) (N := 7) hx hb hts hi0 hown hK hP 8 rfl rfl 0 (by decide) hw0 (fun _ h9 => h9) rfl dX0_cover_1 ?_
  refine lv_iconst (v := (-1)) hx hb dX0_cover_4 (by decide) ?_
  refine kW_v (As := [.ref (a 9), .int (-1)]) (rest := []) ⟨hx, hb, hml, hown, hts⟩ (t_fill9p l D cy a _ (va_up (va_up (va_up J 260 (J 260)) 261 (J 261)) 262 (J 262)) (va_up I 259 (I 259)) O (va_up (va_up (va_up R 9 (R 9)) 10 (R 10)) 11 (R 11)) RO LL Y ((-1) : Int32)   ) (va_cwS 2 hts gX0_cover_J7_fill_53178 rfl rfl rfl (by decide +kernel) ⟨Nat.le_of_ble_eq_true rfl, Nat.le_of_ble_eq_true rfl⟩) hK hN hP hD hS hA rfl hl.1 rfl (Nat.le_of_ble_eq_true rfl) dX0_cover_5 ⟨Nat.le_of_ble_eq_true rfl, Nat.le_of_ble_eq_true rfl⟩ (fun u H locs hw hP hD hS => ?_)
  obtain ⟨w_17, hp_18, rfl⟩ := hw
  have hP : va_P D vwCl (CT cy a (va_up (va_up (va_up J 260 (J 260)) 261 (J 261)) 262 (J 262)) (va_up I 259 (I 259)) O (va_up (va_up (va_up R 9 w_17) 10 (R 10)) 11 (R 11)) RO (LL ++ Y)) H := hP
  have hD : va_D A (CT cy a (va_up (va_up (va_up J 260 (J 260)) 261 (J 261)) 262 (J 262)) (va_up I 259 (I 259)) O (va_up (va_up (va_up R 9 w_17) 10 (R 10)) 11 (R 11)) RO (LL ++ Y)) := hD
  refine lv_aload_n hx hb dX0_cover_8 rfl (lv_at hl 0 rfl) ?_
  refine lv_lload_n hx hb dX0_cover_9 rfl (lv_at hl 1 rfl) ?_
  refine kM_i (As := [.long x0]) (rest := []) (q0 := 8) ⟨hx, hb, hml, hown, hts⟩ (t_X0_search l D cy a _ (va_up (va_up (va_up J 260 (J 260)) 261 (J 261)) 262 (J 262)) (va_up I 259 (I 259)) O (va_up (va_up (va_up R 9 w_17) 10 (R 10)) 11 (R 11)) RO LL Y x0 (rg_fill rfl hp_18) hQ hF  ) (cwV 1 hts gX0_cover_X0_search rfl rfl rfl (by decide +kernel) ⟨Nat.le_of_ble_eq_true rfl, Nat.le_of_ble_eq_true rfl⟩) hK hN hP hD hS hA rfl rfl rfl hl.1 rfl (Nat.le_of_ble_eq_true rfl) dX0_cover_10 ⟨Nat.le_of_ble_eq_true rfl, Nat.le_of_ble_eq_true rfl⟩ (fun r_19 u H locs hw hP hD hS => ?_)
  obtain ⟨w_20, w_21, w_22, w_23, w_24, w_25, ⟨hp_26, hp_27, hp_28⟩, rfl⟩ := hw
  have hP : va_P D vwCl (CT cy a (va_up (va_up (va_up J 260 w_20) 261 w_21) 262 w_22) (va_up I 259 w_23) O (va_up (va_up (va_up R 9 w_17) 10 w_24) 11 w_25) RO (LL ++ Y)) H := hP
  have hD : va_D A (CT cy a (va_up (va_up (va_up J 260 w_20) 261 w_21) 262 w_22) (va_up I 259 w_23) O (va_up (va_up (va_up R 9 w_17) 10 w_24) 11 w_25) RO (LL ++ Y)) := hD
  refine lv_istore_n (lv' := [(3, .int r_19), (0, .ref (a 8)), (1, .long x0)]) hx hb dX0_cover_13 rfl hl (by decide) rfl (fun ls hl => ?_)
  refine lv_iconst (v := 0) hx hb dX0_cover_14 (by decide) ?_
  refine lv_istore (lv' := [(4, .int 0), (3, .int r_19), (0, .ref (a 8)), (1, .long x0)]) hx hb dX0_cover_15 hl (by decide) rfl (fun ls hl => ?_)
  exact lp17 _ 0 r_19 w_20 w_21 w_22 w_23 w_17 w_24 w_25 (by omega) (rg_fill rfl hp_18) hp_26 hp_27 hp_28 (Nat.lt_succ_self _) _ _ hP hD hS ls (lv_sub hl [2, 3, 1, 0] rfl)
