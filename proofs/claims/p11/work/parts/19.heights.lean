theorem dX10_findHeights_154 : decode cX10_findHeights 154 = .ok (.iload 10, 2) := by decide +kernel
theorem dX10_findHeights_156 : decode cX10_findHeights 156 = .ok (.bipush 8, 2) := by decide +kernel
theorem dX10_findHeights_158 : decode cX10_findHeights 158 = .ok (.if_icmp .ge 57, 3) := by decide +kernel
theorem dX10_findHeights_215 : decode cX10_findHeights 215 = .ok (.iinc 8 1, 3) := by decide +kernel
theorem dX10_findHeights_218 : decode cX10_findHeights 218 = .ok (.goto (-147), 3) := by decide +kernel
theorem dX10_findHeights_161 : decode cX10_findHeights 161 = .ok (.aload_n 0, 1) := by decide +kernel
theorem dX10_findHeights_162 : decode cX10_findHeights 162 = .ok (.lload_n 1, 1) := by decide +kernel
theorem dX10_findHeights_163 : decode cX10_findHeights 163 = .ok (.iload 9, 2) := by decide +kernel
theorem dX10_findHeights_165 : decode cX10_findHeights 165 = .ok (.iload 10, 2) := by decide +kernel
set_option maxRecDepth 20000 in
theorem ggX10_findHeights_X10_goesDown : GoodIn wsX10_findHeights wsX10_goesDown := goodIn_r _ [30, 7, 8, 9, 5, 10, 11, 12, 13, 14, 15, 16, 31, 32, 33, 34, 35, 36, 37, 38, 39, 40, 41, 42, 43, 44, 45, 46, 47, 48, 49, 50, 51, 52, 53, 54, 55, 56, 57, 58, 59, 60] rfl (by decide +kernel)
set_option maxRecDepth 20000 in
theorem gX10_findHeights_X10_goesDown : GoodIn wsX10_findHeights (wsV RX10 253 RX10 yX10_goesDown wsX10_goesDown) := goodIn_app (goodIn_r _ [27, 28, 29, 5] rfl (by decide +kernel)) ggX10_findHeights_X10_goesDown
theorem dX10_findHeights_167 : decode cX10_findHeights 167 = .ok (.invokevirtual 253, 3) := by decide +kernel
theorem dX10_findHeights_170 : decode cX10_findHeights 170 = .ok (.ifCond .eq 45, 3) := by decide +kernel
theorem dX10_findHeights_173 : decode cX10_findHeights 173 = .ok (.aload 5, 2) := by decide +kernel
theorem dX10_findHeights_175 : decode cX10_findHeights 175 = .ok (.iload 8, 2) := by decide +kernel
theorem dX10_findHeights_177 : decode cX10_findHeights 177 = .ok (.iload 8, 2) := by decide +kernel
theorem dX10_findHeights_179 : decode cX10_findHeights 179 = .ok (.bipush 9, 2) := by decide +kernel
theorem dX10_findHeights_181 : decode cX10_findHeights 181 = .ok (.iadd, 1) := by decide +kernel
theorem dX10_findHeights_182 : decode cX10_findHeights 182 = .ok (.iload 9, 2) := by decide +kernel
theorem dX10_findHeights_184 : decode cX10_findHeights 184 = .ok (.iload 10, 2) := by decide +kernel
set_option maxRecDepth 20000 in
theorem ggX10_findHeights_X10_isDark : GoodIn wsX10_findHeights wsX10_isDark := goodIn_r _ [23] rfl (by decide +kernel)
set_option maxRecDepth 20000 in
theorem gX10_findHeights_X10_isDark : GoodIn wsX10_findHeights (va_wsS RX10 168 yX10_isDark wsX10_isDark) := goodIn_app (goodIn_r _ [21, 22, 5] rfl (by decide +kernel)) ggX10_findHeights_X10_isDark
theorem dX10_findHeights_186 : decode cX10_findHeights 186 = .ok (.invokestatic 168, 3) := by decide +kernel
theorem dX10_findHeights_189 : decode cX10_findHeights 189 = .ok (.ifCond .eq 7, 3) := by decide +kernel
theorem dX10_findHeights_196 : decode cX10_findHeights 196 = .ok (.iconst (-1), 1) := by decide +kernel
set_option maxRecDepth 20000 in
theorem ggX10_findHeights_X10_spread : GoodIn wsX10_findHeights wsX10_spread := goodIn_r _ [26, 1] rfl (by decide +kernel)
set_option maxRecDepth 20000 in
theorem gX10_findHeights_X10_spread : GoodIn wsX10_findHeights (va_wsS RX10 249 yX10_spread wsX10_spread) := goodIn_app (goodIn_r _ [24, 25, 5] rfl (by decide +kernel)) ggX10_findHeights_X10_spread
theorem dX10_findHeights_197 : decode cX10_findHeights 197 = .ok (.invokestatic 249, 3) := by decide +kernel
theorem dX10_findHeights_200 : decode cX10_findHeights 200 = .ok (.ifCond .ne 8, 3) := by decide +kernel
theorem dX10_findHeights_208 : decode cX10_findHeights 208 = .ok (.iconst 1, 1) := by decide +kernel
theorem dX10_findHeights_209 : decode cX10_findHeights 209 = .ok (.goto 4, 3) := by decide +kernel
theorem dX10_findHeights_213 : decode cX10_findHeights 213 = .ok (.istore 7, 2) := by decide +kernel
theorem dX10_findHeights_203 : decode cX10_findHeights 203 = .ok (.iload 7, 2) := by decide +kernel
theorem dX10_findHeights_205 : decode cX10_findHeights 205 = .ok (.ifCond .eq 7, 3) := by decide +kernel
theorem dX10_findHeights_212 : decode cX10_findHeights 212 = .ok (.iconst 0, 1) := by decide +kernel
theorem dX10_findHeights_192 : decode cX10_findHeights 192 = .ok (.iconst 1, 1) := by decide +kernel
theorem dX10_findHeights_193 : decode cX10_findHeights 193 = .ok (.goto 4, 3) := by decide +kernel
theorem dX10_findHeights_71 : decode cX10_findHeights 71 = .ok (.iload 8, 2) := by decide +kernel
theorem dX10_findHeights_73 : decode cX10_findHeights 73 = .ok (.bipush 81, 2) := by decide +kernel
theorem dX10_findHeights_75 : decode cX10_findHeights 75 = .ok (.if_icmp .ge 146, 3) := by decide +kernel
theorem dX10_findHeights_221 : decode cX10_findHeights 221 = .ok (.goto (-161), 3) := by decide +kernel
theorem dX10_findHeights_78 : decode cX10_findHeights 78 = .ok (.iload 8, 2) := by decide +kernel
theorem dX10_findHeights_80 : decode cX10_findHeights 80 = .ok (.bipush 9, 2) := by decide +kernel
theorem dX10_findHeights_82 : decode cX10_findHeights 82 = .ok (.irem, 1) := by decide +kernel
theorem dX10_findHeights_83 : decode cX10_findHeights 83 = .ok (.istore 9, 2) := by decide +kernel
theorem dX10_findHeights_85 : decode cX10_findHeights 85 = .ok (.iload 8, 2) := by decide +kernel
theorem dX10_findHeights_87 : decode cX10_findHeights 87 = .ok (.bipush 9, 2) := by decide +kernel
theorem dX10_findHeights_89 : decode cX10_findHeights 89 = .ok (.idiv, 1) := by decide +kernel
theorem dX10_findHeights_90 : decode cX10_findHeights 90 = .ok (.istore 10, 2) := by decide +kernel
theorem dX10_findHeights_92 : decode cX10_findHeights 92 = .ok (.iload 9, 2) := by decide +kernel
theorem dX10_findHeights_94 : decode cX10_findHeights 94 = .ok (.bipush 8, 2) := by decide +kernel
theorem dX10_findHeights_96 : decode cX10_findHeights 96 = .ok (.if_icmp .ge 58, 3) := by decide +kernel
theorem dX10_findHeights_99 : decode cX10_findHeights 99 = .ok (.aload_n 0, 1) := by decide +kernel
theorem dX10_findHeights_100 : decode cX10_findHeights 100 = .ok (.lload_n 3, 1) := by decide +kernel
theorem dX10_findHeights_101 : decode cX10_findHeights 101 = .ok (.iload 9, 2) := by decide +kernel
theorem dX10_findHeights_103 : decode cX10_findHeights 103 = .ok (.iload 10, 2) := by decide +kernel
set_option maxRecDepth 20000 in
theorem ggX10_findHeights_X10_goesRight : GoodIn wsX10_findHeights wsX10_goesRight := goodIn_r _ [20, 7, 8, 9, 5, 10, 11, 12, 13, 14, 15, 16, 31, 32, 33, 34, 35, 36, 37, 38, 39, 40, 41, 42, 43, 44, 45, 46, 47, 48, 49, 50, 51, 52, 53, 54, 55, 56, 57, 58, 59, 60] rfl (by decide +kernel)
set_option maxRecDepth 20000 in
theorem gX10_findHeights_X10_goesRight : GoodIn wsX10_findHeights (wsV RX10 246 RX10 yX10_goesRight wsX10_goesRight) := goodIn_app (goodIn_r _ [17, 18, 19, 5] rfl (by decide +kernel)) ggX10_findHeights_X10_goesRight
theorem dX10_findHeights_105 : decode cX10_findHeights 105 = .ok (.invokevirtual 246, 3) := by decide +kernel
theorem dX10_findHeights_108 : decode cX10_findHeights 108 = .ok (.ifCond .eq 46, 3) := by decide +kernel
theorem dX10_findHeights_111 : decode cX10_findHeights 111 = .ok (.aload 5, 2) := by decide +kernel
theorem dX10_findHeights_113 : decode cX10_findHeights 113 = .ok (.iload 8, 2) := by decide +kernel
theorem dX10_findHeights_115 : decode cX10_findHeights 115 = .ok (.iload 8, 2) := by decide +kernel
theorem dX10_findHeights_117 : decode cX10_findHeights 117 = .ok (.iconst 1, 1) := by decide +kernel
theorem dX10_findHeights_118 : decode cX10_findHeights 118 = .ok (.iadd, 1) := by decide +kernel
theorem dX10_findHeights_119 : decode cX10_findHeights 119 = .ok (.iload 9, 2) := by decide +kernel
theorem dX10_findHeights_121 : decode cX10_findHeights 121 = .ok (.iload 10, 2) := by decide +kernel
theorem dX10_findHeights_123 : decode cX10_findHeights 123 = .ok (.iconst 1, 1) := by decide +kernel
theorem dX10_findHeights_124 : decode cX10_findHeights 124 = .ok (.isub, 1) := by decide +kernel
theorem dX10_findHeights_125 : decode cX10_findHeights 125 = .ok (.invokestatic 168, 3) := by decide +kernel
theorem dX10_findHeights_128 : decode cX10_findHeights 128 = .ok (.ifCond .eq 7, 3) := by decide +kernel
theorem dX10_findHeights_135 : decode cX10_findHeights 135 = .ok (.iconst (-1), 1) := by decide +kernel
theorem dX10_findHeights_136 : decode cX10_findHeights 136 = .ok (.invokestatic 249, 3) := by decide +kernel
theorem dX10_findHeights_139 : decode cX10_findHeights 139 = .ok (.ifCond .ne 8, 3) := by decide +kernel
theorem dX10_findHeights_147 : decode cX10_findHeights 147 = .ok (.iconst 1, 1) := by decide +kernel
theorem dX10_findHeights_148 : decode cX10_findHeights 148 = .ok (.goto 4, 3) := by decide +kernel
theorem dX10_findHeights_152 : decode cX10_findHeights 152 = .ok (.istore 7, 2) := by decide +kernel
theorem dX10_findHeights_142 : decode cX10_findHeights 142 = .ok (.iload 7, 2) := by decide +kernel
theorem dX10_findHeights_144 : decode cX10_findHeights 144 = .ok (.ifCond .eq 7, 3) := by decide +kernel
theorem dX10_findHeights_151 : decode cX10_findHeights 151 = .ok (.iconst 0, 1) := by decide +kernel
theorem dX10_findHeights_131 : decode cX10_findHeights 131 = .ok (.iconst 1, 1) := by decide +kernel
theorem dX10_findHeights_132 : decode cX10_findHeights 132 = .ok (.goto 4, 3) := by decide +kernel
theorem dX10_findHeights_60 : decode cX10_findHeights 60 = .ok (.iload 7, 2) := by decide +kernel
theorem dX10_findHeights_62 : decode cX10_findHeights 62 = .ok (.ifCond .eq 162, 3) := by decide +kernel
theorem dX10_findHeights_224 : decode cX10_findHeights 224 = .ok (.return_, 1) := by decide +kernel
theorem dX10_findHeights_65 : decode cX10_findHeights 65 = .ok (.iconst 0, 1) := by decide +kernel
theorem dX10_findHeights_66 : decode cX10_findHeights 66 = .ok (.istore 7, 2) := by decide +kernel
theorem dX10_findHeights_68 : decode cX10_findHeights 68 = .ok (.iconst 0, 1) := by decide +kernel
theorem dX10_findHeights_69 : decode cX10_findHeights 69 = .ok (.istore 8, 2) := by decide +kernel
theorem dX10_findHeights_7 : decode cX10_findHeights 7 = .ok (.iload 7, 2) := by decide +kernel
theorem dX10_findHeights_9 : decode cX10_findHeights 9 = .ok (.ifCond .lt 42, 3) := by decide +kernel
theorem dX10_findHeights_51 : decode cX10_findHeights 51 = .ok (.aload 5, 2) := by decide +kernel
theorem dX10_findHeights_53 : decode cX10_findHeights 53 = .ok (.iload 6, 2) := by decide +kernel
theorem dX10_findHeights_55 : decode cX10_findHeights 55 = .ok (.iconst 0, 1) := by decide +kernel
theorem dX10_findHeights_56 : decode cX10_findHeights 56 = .ok (.iastore, 1) := by decide +kernel
theorem dX10_findHeights_57 : decode cX10_findHeights 57 = .ok (.iconst 1, 1) := by decide +kernel
theorem dX10_findHeights_58 : decode cX10_findHeights 58 = .ok (.istore 7, 2) := by decide +kernel
theorem dX10_findHeights_12 : decode cX10_findHeights 12 = .ok (.aload 5, 2) := by decide +kernel
theorem dX10_findHeights_14 : decode cX10_findHeights 14 = .ok (.iload 7, 2) := by decide +kernel
theorem dX10_findHeights_16 : decode cX10_findHeights 16 = .ok (.ldc 242, 2) := by decide +kernel
theorem dX10_findHeights_18 : decode cX10_findHeights 18 = .ok (.iastore, 1) := by decide +kernel
theorem dX10_findHeights_19 : decode cX10_findHeights 19 = .ok (.aload_n 0, 1) := by decide +kernel
theorem dX10_findHeights_20 : decode cX10_findHeights 20 = .ok (.iload 7, 2) := by decide +kernel
theorem dX10_findHeights_22 : decode cX10_findHeights 22 = .ok (.bipush 9, 2) := by decide +kernel
theorem dX10_findHeights_24 : decode cX10_findHeights 24 = .ok (.irem, 1) := by decide +kernel
theorem dX10_findHeights_25 : decode cX10_findHeights 25 = .ok (.iload 7, 2) := by decide +kernel
theorem dX10_findHeights_27 : decode cX10_findHeights 27 = .ok (.bipush 9, 2) := by decide +kernel
theorem dX10_findHeights_29 : decode cX10_findHeights 29 = .ok (.idiv, 1) := by decide +kernel
set_option maxRecDepth 20000 in
theorem ggX10_findHeights_X10_isPoint : GoodIn wsX10_findHeights wsX10_isPoint := goodIn_r _ [6, 7, 8, 9, 5, 10, 11, 12, 13, 14, 15, 16, 31, 32, 33, 34, 35, 36, 37, 38, 39, 40, 41, 42, 43, 44, 45, 46, 47, 48, 49, 50, 51, 52, 53, 54, 55, 56, 57, 58, 59, 60] rfl (by decide +kernel)
set_option maxRecDepth 20000 in
theorem gX10_findHeights_X10_isPoint : GoodIn wsX10_findHeights (wsV RX10 243 RX10 yX10_isPoint wsX10_isPoint) := goodIn_app (goodIn_r _ [2, 3, 4, 5] rfl (by decide +kernel)) ggX10_findHeights_X10_isPoint
theorem dX10_findHeights_30 : decode cX10_findHeights 30 = .ok (.invokevirtual 243, 3) := by decide +kernel
theorem dX10_findHeights_33 : decode cX10_findHeights 33 = .ok (.ifCond .eq 8, 3) := by decide +kernel
theorem dX10_findHeights_41 : decode cX10_findHeights 41 = .ok (.iload 6, 2) := by decide +kernel
theorem dX10_findHeights_43 : decode cX10_findHeights 43 = .ok (.istore 6, 2) := by decide +kernel
theorem dX10_findHeights_45 : decode cX10_findHeights 45 = .ok (.iinc 7 (-1), 3) := by decide +kernel
theorem dX10_findHeights_48 : decode cX10_findHeights 48 = .ok (.goto (-41), 3) := by decide +kernel
theorem dX10_findHeights_36 : decode cX10_findHeights 36 = .ok (.iload 7, 2) := by decide +kernel
theorem dX10_findHeights_38 : decode cX10_findHeights 38 = .ok (.goto 5, 3) := by decide +kernel
theorem dX10_findHeights_0 : decode cX10_findHeights 0 = .ok (.iconst (-1), 1) := by decide +kernel
theorem dX10_findHeights_1 : decode cX10_findHeights 1 = .ok (.istore 6, 2) := by decide +kernel
theorem dX10_findHeights_3 : decode cX10_findHeights 3 = .ok (.bipush 80, 2) := by decide +kernel
theorem dX10_findHeights_5 : decode cX10_findHeights 5 = .ok (.istore 7, 2) := by decide +kernel
set_option maxHeartbeats 4000000 in
set_option maxRecDepth 100000 in
theorem t_X10_findHeights13 (l : Launch) (D : va_G) (cy : Nat → ClassId) (a : Nat → Nat) (sz : Nat) (J : Nat → Int64) (I : Nat → Int32) (R : Nat → Nat → Int32) (RJ : Nat → Nat → Int64) (x0 : Int64) (x1 : Int64) (hfl : ¬ J 0 = 0) : Met l yX10_findHeights wsX10_findHeights ({ frames := 3, cells := 0, slots := 0, locals := 69 }) (va_Pc [.ref (a 0), .long x0, .long x1, .ref (a 13)] (PW D cy sz (MW cy a J I R RJ))) (va_Qv (fun (u : MS) => ∃ (w0 : Nat → Int32), (True) ∧ u = (J, I, (va_up R 13 w0), RJ)) (BW D (va_A (MW cy a J I R RJ) sz) (MWu cy a)) (va_A (MW cy a J I R RJ) sz)) 0 0 (va_A (MW cy a J I R RJ) sz) := by
  refine Met.ofW (cc := cX10_findHeights) (maxL := 11) (ret := none) (by decide) rfl ?_
  intro p e s m args below meth c s₁ B hml hv
  obtain ⟨rfl, rfl, hP, hK, hN, hD0⟩ := hv
  have hx := B.exec
  have hb := B.bytes
  have hr := B.returns
  have hts := atoms_spec (ws := wsX10_findHeights) B.pre
  have hown : s.vm.findClass RX10 = some m.cls := findClass_of_methodNamed B.named
  have hlocks := B.notSynchronized
  have hw0 := hts (.constant RX10 242 (1000000)) (by decide +kernel)
  have hD := hD0.self (sz := s.heap.size)
  generalize hAe : va_A (MW cy a J I R RJ) s.heap.size = A at hD ⊢
  have hA : ∀ q : Nat, s.heap.size ≤ q → A q := fun q h => by rw [← hAe]; exact Or.inr h
  have hS : va_S A s.heap s.heap [] := va_S.rf
  have hl := lv_entry ([.ref (a 0), .long x0, .long x1, .ref (a 13)]) (n := 11) (Nat.le_of_ble_eq_true rfl)
  rw [lg_entry_eq]
  generalize (lg_sl ([.ref (a 0), .long x0, .long x1, .ref (a 13)]) ++ List.replicate (11 - (lg_sl ([.ref (a 0), .long x0, .long x1, .ref (a 13)])).length) Slot.unset).toArray = ls at hl ⊢
  have hl : lv_has ls 11 [(0, .ref (a 0)), (1, .long x0), (3, .long x1), (5, .ref (a 13))] := hl
  have hP : va_P D vwCl (MW cy a J I (va_up R 13 (R 13)) RJ) s.heap := hP
  have hD : va_D A (MW cy a J I (va_up R 13 (R 13)) RJ) := hD
  have lp60 : ∀ (n60 : Nat), ∀ (v7_60 : Bool) (m0_60 : Nat → Int32), (hB m0_60) → (cF m0_60 81 + bN v7_60) < n60 → ∀ (H : Heap) (locs : List Loc), va_P D vwCl (MW cy a J I (va_up R 13 m0_60) RJ) H → va_D A (MW cy a J I (va_up R 13 m0_60) RJ) → va_S A s.heap H locs → ∀ (ls : Array Slot), lv_has ls 11 [(0, .ref (a 0)), (1, .long x0), (3, .long x1), (5, .ref (a 13)), (7, .int (bI v7_60))] → W p l e (headSpec wsX10_findHeights ({ frames := 3, cells := 0, slots := 0, locals := 69 })).room s m ([.ref (a 0), .long x0, .long x1, .ref (a 13)] : List Value).toArray below meth c H locs 0 0 (MQ below (va_Qv (fun (u : MS) => ∃ (w0 : Nat → Int32), (True) ∧ u = (J, I, (va_up R 13 w0), RJ)) (BW D A (MWu cy a)) A) ([.ref (a 0), .long x0, .long x1, .ref (a 13)] : List Value).toArray s 0 0 A) (F0 m 60 ls []) := by
    intro n60
    induction n60 with
    | zero => intro v7_60 m0_60 hh hn; exact absurd hn (Nat.not_lt_zero _)
    | succ n60 ih60 =>
      intro v7_60 m0_60 hh hn60 H locs hP hD hS ls hl
      have lp71 : ∀ (n71 : Nat), ∀ (p9 : Nat) (v7_71 : Bool) (m0_71 : Nat → Int32), (p9 ≤ 81) → (v7_60 = true) → (cF m0_71 81 + bN v7_71 ≤ cF m0_60 81) → (hB m0_71) → (81 - p9) < n71 → ∀ (H : Heap) (locs : List Loc), va_P D vwCl (MW cy a J I (va_up R 13 m0_71) RJ) H → va_D A (MW cy a J I (va_up R 13 m0_71) RJ) → va_S A s.heap H locs → ∀ (ls : Array Slot), lv_has ls 11 [(0, .ref (a 0)), (1, .long x0), (3, .long x1), (5, .ref (a 13)), (7, .int (bI v7_71)), (8, .int (nI p9))] → W p l e (headSpec wsX10_findHeights ({ frames := 3, cells := 0, slots := 0, locals := 69 })).room s m ([.ref (a 0), .long x0, .long x1, .ref (a 13)] : List Value).toArray below meth c H locs 0 0 (MQ below (va_Qv (fun (u : MS) => ∃ (w0 : Nat → Int32), (True) ∧ u = (J, I, (va_up R 13 w0), RJ)) (BW D A (MWu cy a)) A) ([.ref (a 0), .long x0, .long x1, .ref (a 13)] : List Value).toArray s 0 0 A) (F0 m 71 ls []) := by
        intro n71
        induction n71 with
        | zero => intro p9 v7_71 m0_71 hp9 hm hc hh hn; exact absurd hn (Nat.not_lt_zero _)
        | succ n71 ih71 =>
          intro p9 v7_71 m0_71 hp9 hm hc hh hn71 H locs hP hD hS ls hl
          have lp154 : ∀ (v7_154 : Bool) (m0_154 : Nat → Int32), (p9 < 81) → (cF m0_154 81 + bN v7_154 ≤ cF m0_60 81) → (hB m0_154) → ∀ (H : Heap) (locs : List Loc), va_P D vwCl (MW cy a J I (va_up R 13 m0_154) RJ) H → va_D A (MW cy a J I (va_up R 13 m0_154) RJ) → va_S A s.heap H locs → ∀ (ls : Array Slot), lv_has ls 11 [(0, .ref (a 0)), (1, .long x0), (3, .long x1), (5, .ref (a 13)), (7, .int (bI v7_154)), (8, .int (nI p9)), (9, .int (nI p9 - nI p9 / 9 * 9)), (10, .int (nI p9 / 9))] → W p l e (headSpec wsX10_findHeights ({ frames := 3, cells := 0, slots := 0, locals := 69 })).room s m ([.ref (a 0), .long x0, .long x1, .ref (a 13)] : List Value).toArray below meth c H locs 0 0 (MQ below (va_Qv (fun (u : MS) => ∃ (w0 : Nat → Int32), (True) ∧ u = (J, I, (va_up R 13 w0), RJ)) (BW D A (MWu cy a)) A) ([.ref (a 0), .long x0, .long x1, .ref (a 13)] : List Value).toArray s 0 0 A) (F0 m 154 ls []) := by
            intro v7_154 m0_154 hlt_p9 hc hh H locs hP hD hS ls hl
            refine lv_iload hx hb dX10_findHeights_154 (lv_at hl 7 rfl) ?_
            refine lv_bipush (v := 8) hx hb dX10_findHeights_156 (by decide) ?_
            refine lv_icmp_ge (tgt := 215) hx hb dX10_findHeights_158 (by decide) (fun c_1 => ?_) (fun c_1 => ?_)
            · refine lv_iinc (v := nI (p9 + 1)) (lv' := [(8, .int (nI (p9 + 1))), (0, .ref (a 0)), (1, .long x0), (3, .long x1), (5, .ref (a 13)), (7, .int (bI v7_154)), (9, .int (nI p9 - nI p9 / 9 * 9)), (10, .int (nI p9 / 9))]) hx hb dX10_findHeights_215 hl (k := 5) rfl (nI_1 _) (by decide) rfl (fun ls hl => ?_)
              refine lv_goto (tgt := 71) hx hb dX10_findHeights_218 (by decide) ?_
              exact ih71 (p9 + 1) v7_154 m0_154 hlt_p9 hm hc hh (lt_dec hlt_p9 hn71) _ _ hP hD hS ls (lv_sub hl [1, 2, 3, 4, 5, 0] rfl)
            · refine lv_aload_n hx hb dX10_findHeights_161 rfl (lv_at hl 0 rfl) ?_
              refine lv_lload_n hx hb dX10_findHeights_162 rfl (lv_at hl 1 rfl) ?_
              refine lv_iload hx hb dX10_findHeights_163 (lv_at hl 6 rfl) ?_
              refine lv_iload hx hb dX10_findHeights_165 (lv_at hl 7 rfl) ?_
              refine kR_i (As := [.long x0, .int (nI p9 - nI p9 / 9 * 9), .int (nI p9 / 9)]) (rest := []) (q0 := 0) ⟨hx, hb, hml, hown, hts⟩ (c_X10_goesDown l D cy a _ J I (va_up R 13 m0_154) RJ x0 (nI p9 - nI p9 / 9 * 9) (nI p9 / 9) ) (cwV 3 hts gX10_findHeights_X10_goesDown rfl rfl rfl (by decide +kernel) ⟨Nat.le_of_ble_eq_true rfl, Nat.le_of_ble_eq_true rfl⟩) hK hN hP hD rfl rfl rfl hl.1 rfl (Nat.le_of_ble_eq_true rfl) dX10_findHeights_167 ⟨Nat.le_of_ble_eq_true rfl, Nat.le_of_ble_eq_true rfl⟩ ?_
              refine lv_if_eq (tgt := 215) hx hb dX10_findHeights_170 (by decide) (fun c_2 => ?_) (fun c_2 => ?_)
              · replace c_2 := bI_f c_2
                refine lv_iinc (v := nI (p9 + 1)) (lv' := [(8, .int (nI (p9 + 1))), (0, .ref (a 0)), (1, .long x0), (3, .long x1), (5, .ref (a 13)), (7, .int (bI v7_154)), (9, .int (nI p9 - nI p9 / 9 * 9)), (10, .int (nI p9 / 9))]) hx hb dX10_findHeights_215 hl (k := 5) rfl (nI_1 _) (by decide) rfl (fun ls hl => ?_)
                refine lv_goto (tgt := 71) hx hb dX10_findHeights_218 (by decide) ?_
                exact ih71 (p9 + 1) v7_154 m0_154 hlt_p9 hm hc hh (lt_dec hlt_p9 hn71) _ _ hP hD hS ls (lv_sub hl [1, 2, 3, 4, 5, 0] rfl)
              · replace c_2 := bI_t c_2
                refine lv_aload hx hb dX10_findHeights_173 (lv_at hl 3 rfl) ?_
                refine lv_iload hx hb dX10_findHeights_175 (lv_at hl 5 rfl) ?_
                refine lv_iload hx hb dX10_findHeights_177 (lv_at hl 5 rfl) ?_
                refine lv_bipush (v := 9) hx hb dX10_findHeights_179 (by decide) ?_
                refine lv_iadd hx hb dX10_findHeights_181 ?_
                refine wtop_i (y := nI (p9 + 9)) (by rw [← nI_add]; rfl) ?_
                refine lv_iload hx hb dX10_findHeights_182 (lv_at hl 6 rfl) ?_
                refine lv_iload hx hb dX10_findHeights_184 (lv_at hl 7 rfl) ?_
                refine kS_i (As := [.int (nI p9 - nI p9 / 9 * 9), .int (nI p9 / 9)]) (rest := [.int (nI (p9 + 9)), .int (nI p9), .ref (a 13)]) ⟨hx, hb, hml, hown, hts⟩ (c_X10_isDark l (nI p9 - nI p9 / 9 * 9) (nI p9 / 9)) (va_cwS 2 hts gX10_findHeights_X10_isDark rfl rfl rfl (by decide +kernel) ⟨Nat.le_of_ble_eq_true rfl, Nat.le_of_ble_eq_true rfl⟩) rfl hl.1 rfl (Nat.le_of_ble_eq_true rfl) dX10_findHeights_186 ⟨Nat.le_of_ble_eq_true rfl, Nat.le_of_ble_eq_true rfl⟩ ?_
                refine lv_if_eq (tgt := 196) hx hb dX10_findHeights_189 (by decide) (fun c_3 => ?_) (fun c_3 => ?_)
                · replace c_3 := bI_f c_3
                  refine lv_iconst (v := (-1)) hx hb dX10_findHeights_196 (by decide) ?_
                  refine kW_i (As := [.ref (a 13), .int (nI p9), .int (nI (p9 + 9)), .int (-1)]) (rest := []) ⟨hx, hb, hml, hown, hts⟩ (t_X10_spread13 l D cy a _ J I (va_up R 13 m0_154) RJ p9 (p9 + 9) (-1) hlt_p9 (hx_9 ⟨p9, hlt_p9⟩ c_1) (Or.inr rfl) hh ) (va_cwS 4 hts gX10_findHeights_X10_spread rfl rfl rfl (by decide +kernel) ⟨Nat.le_of_ble_eq_true rfl, Nat.le_of_ble_eq_true rfl⟩) hK hN hP hD hS hA rfl hl.1 rfl (Nat.le_of_ble_eq_true rfl) dX10_findHeights_197 ⟨Nat.le_of_ble_eq_true rfl, Nat.le_of_ble_eq_true rfl⟩ (fun r_4 u H locs hw hP hD hS => ?_)
                  obtain ⟨w_5, zb_6, ⟨rfl, hp_7, hp_8⟩, rfl⟩ := hw
                  have hP : va_P D vwCl (MW cy a J I (va_up R 13 w_5) RJ) H := hP
                  have hD : va_D A (MW cy a J I (va_up R 13 w_5) RJ) := hD
                  refine lv_if_ne (tgt := 208) hx hb dX10_findHeights_200 (by decide) (fun c_9 => ?_) (fun c_9 => ?_)
                  · replace c_9 := bI_t c_9
                    refine lv_iconst (v := 1) hx hb dX10_findHeights_208 (by decide) ?_
                    refine lv_goto (tgt := 213) hx hb dX10_findHeights_209 (by decide) ?_
                    refine lv_istore (lv' := [(7, .int 1), (0, .ref (a 0)), (1, .long x0), (3, .long x1), (5, .ref (a 13)), (8, .int (nI p9)), (9, .int (nI p9 - nI p9 / 9 * 9)), (10, .int (nI p9 / 9))]) hx hb dX10_findHeights_213 hl (by decide) rfl (fun ls hl => ?_)
                    refine lv_iinc (v := nI (p9 + 1)) (lv' := [(8, .int (nI (p9 + 1))), (7, .int 1), (0, .ref (a 0)), (1, .long x0), (3, .long x1), (5, .ref (a 13)), (9, .int (nI p9 - nI p9 / 9 * 9)), (10, .int (nI p9 / 9))]) hx hb dX10_findHeights_215 hl (k := 5) rfl (nI_1 _) (by decide) rfl (fun ls hl => ?_)
                    refine lv_goto (tgt := 71) hx hb dX10_findHeights_218 (by decide) ?_
                    exact ih71 (p9 + 1) true w_5 hlt_p9 hm (hc_t hp_8 hc c_9) hp_7 (lt_dec hlt_p9 hn71) _ _ hP hD hS ls (lv_sub hl [2, 3, 4, 5, 1, 0] rfl)
                  · replace c_9 := bI_f c_9
                    refine lv_iload hx hb dX10_findHeights_203 (lv_at hl 4 rfl) ?_
                    refine lv_if_eq (tgt := 212) hx hb dX10_findHeights_205 (by decide) (fun c_10 => ?_) (fun c_10 => ?_)
                    · replace c_10 := bI_f c_10
                      refine lv_iconst (v := 0) hx hb dX10_findHeights_212 (by decide) ?_
                      refine lv_istore (lv' := [(7, .int 0), (0, .ref (a 0)), (1, .long x0), (3, .long x1), (5, .ref (a 13)), (8, .int (nI p9)), (9, .int (nI p9 - nI p9 / 9 * 9)), (10, .int (nI p9 / 9))]) hx hb dX10_findHeights_213 hl (by decide) rfl (fun ls hl => ?_)
                      refine lv_iinc (v := nI (p9 + 1)) (lv' := [(8, .int (nI (p9 + 1))), (7, .int 0), (0, .ref (a 0)), (1, .long x0), (3, .long x1), (5, .ref (a 13)), (9, .int (nI p9 - nI p9 / 9 * 9)), (10, .int (nI p9 / 9))]) hx hb dX10_findHeights_215 hl (k := 5) rfl (nI_1 _) (by decide) rfl (fun ls hl => ?_)
                      refine lv_goto (tgt := 71) hx hb dX10_findHeights_218 (by decide) ?_
                      exact ih71 (p9 + 1) false w_5 hlt_p9 hm (hc_v hp_8 hc c_10) hp_7 (lt_dec hlt_p9 hn71) _ _ hP hD hS ls (lv_sub hl [2, 3, 4, 5, 1, 0] rfl)
                    · replace c_10 := bI_t c_10
                      refine lv_iconst (v := 1) hx hb dX10_findHeights_208 (by decide) ?_
                      refine lv_goto (tgt := 213) hx hb dX10_findHeights_209 (by decide) ?_
                      refine lv_istore (lv' := [(7, .int 1), (0, .ref (a 0)), (1, .long x0), (3, .long x1), (5, .ref (a 13)), (8, .int (nI p9)), (9, .int (nI p9 - nI p9 / 9 * 9)), (10, .int (nI p9 / 9))]) hx hb dX10_findHeights_213 hl (by decide) rfl (fun ls hl => ?_)
                      refine lv_iinc (v := nI (p9 + 1)) (lv' := [(8, .int (nI (p9 + 1))), (7, .int 1), (0, .ref (a 0)), (1, .long x0), (3, .long x1), (5, .ref (a 13)), (9, .int (nI p9 - nI p9 / 9 * 9)), (10, .int (nI p9 / 9))]) hx hb dX10_findHeights_215 hl (k := 5) rfl (nI_1 _) (by decide) rfl (fun ls hl => ?_)
                      refine lv_goto (tgt := 71) hx hb dX10_findHeights_218 (by decide) ?_
                      exact ih71 (p9 + 1) true w_5 hlt_p9 hm (hc_v hp_8 hc c_10) hp_7 (lt_dec hlt_p9 hn71) _ _ hP hD hS ls (lv_sub hl [2, 3, 4, 5, 1, 0] rfl)
                · replace c_3 := bI_t c_3
                  refine lv_iconst (v := 1) hx hb dX10_findHeights_192 (by decide) ?_
                  refine lv_goto (tgt := 197) hx hb dX10_findHeights_193 (by decide) ?_
                  refine kW_i (As := [.ref (a 13), .int (nI p9), .int (nI (p9 + 9)), .int 1]) (rest := []) ⟨hx, hb, hml, hown, hts⟩ (t_X10_spread13 l D cy a _ J I (va_up R 13 m0_154) RJ p9 (p9 + 9) 1 hlt_p9 (hx_9 ⟨p9, hlt_p9⟩ c_1) (Or.inl rfl) hh ) (va_cwS 4 hts gX10_findHeights_X10_spread rfl rfl rfl (by decide +kernel) ⟨Nat.le_of_ble_eq_true rfl, Nat.le_of_ble_eq_true rfl⟩) hK hN hP hD hS hA rfl hl.1 rfl (Nat.le_of_ble_eq_true rfl) dX10_findHeights_197 ⟨Nat.le_of_ble_eq_true rfl, Nat.le_of_ble_eq_true rfl⟩ (fun r_11 u H locs hw hP hD hS => ?_)
                  obtain ⟨w_12, zb_13, ⟨rfl, hp_14, hp_15⟩, rfl⟩ := hw
                  have hP : va_P D vwCl (MW cy a J I (va_up R 13 w_12) RJ) H := hP
                  have hD : va_D A (MW cy a J I (va_up R 13 w_12) RJ) := hD
                  refine lv_if_ne (tgt := 208) hx hb dX10_findHeights_200 (by decide) (fun c_16 => ?_) (fun c_16 => ?_)
                  · replace c_16 := bI_t c_16
                    refine lv_iconst (v := 1) hx hb dX10_findHeights_208 (by decide) ?_
                    refine lv_goto (tgt := 213) hx hb dX10_findHeights_209 (by decide) ?_
                    refine lv_istore (lv' := [(7, .int 1), (0, .ref (a 0)), (1, .long x0), (3, .long x1), (5, .ref (a 13)), (8, .int (nI p9)), (9, .int (nI p9 - nI p9 / 9 * 9)), (10, .int (nI p9 / 9))]) hx hb dX10_findHeights_213 hl (by decide) rfl (fun ls hl => ?_)
                    refine lv_iinc (v := nI (p9 + 1)) (lv' := [(8, .int (nI (p9 + 1))), (7, .int 1), (0, .ref (a 0)), (1, .long x0), (3, .long x1), (5, .ref (a 13)), (9, .int (nI p9 - nI p9 / 9 * 9)), (10, .int (nI p9 / 9))]) hx hb dX10_findHeights_215 hl (k := 5) rfl (nI_1 _) (by decide) rfl (fun ls hl => ?_)
                    refine lv_goto (tgt := 71) hx hb dX10_findHeights_218 (by decide) ?_
                    exact ih71 (p9 + 1) true w_12 hlt_p9 hm (hc_t hp_15 hc c_16) hp_14 (lt_dec hlt_p9 hn71) _ _ hP hD hS ls (lv_sub hl [2, 3, 4, 5, 1, 0] rfl)
                  · replace c_16 := bI_f c_16
                    refine lv_iload hx hb dX10_findHeights_203 (lv_at hl 4 rfl) ?_
                    refine lv_if_eq (tgt := 212) hx hb dX10_findHeights_205 (by decide) (fun c_17 => ?_) (fun c_17 => ?_)
                    · replace c_17 := bI_f c_17
                      refine lv_iconst (v := 0) hx hb dX10_findHeights_212 (by decide) ?_
                      refine lv_istore (lv' := [(7, .int 0), (0, .ref (a 0)), (1, .long x0), (3, .long x1), (5, .ref (a 13)), (8, .int (nI p9)), (9, .int (nI p9 - nI p9 / 9 * 9)), (10, .int (nI p9 / 9))]) hx hb dX10_findHeights_213 hl (by decide) rfl (fun ls hl => ?_)
                      refine lv_iinc (v := nI (p9 + 1)) (lv' := [(8, .int (nI (p9 + 1))), (7, .int 0), (0, .ref (a 0)), (1, .long x0), (3, .long x1), (5, .ref (a 13)), (9, .int (nI p9 - nI p9 / 9 * 9)), (10, .int (nI p9 / 9))]) hx hb dX10_findHeights_215 hl (k := 5) rfl (nI_1 _) (by decide) rfl (fun ls hl => ?_)
                      refine lv_goto (tgt := 71) hx hb dX10_findHeights_218 (by decide) ?_
                      exact ih71 (p9 + 1) false w_12 hlt_p9 hm (hc_v hp_15 hc c_17) hp_14 (lt_dec hlt_p9 hn71) _ _ hP hD hS ls (lv_sub hl [2, 3, 4, 5, 1, 0] rfl)
                    · replace c_17 := bI_t c_17
                      refine lv_iconst (v := 1) hx hb dX10_findHeights_208 (by decide) ?_
                      refine lv_goto (tgt := 213) hx hb dX10_findHeights_209 (by decide) ?_
                      refine lv_istore (lv' := [(7, .int 1), (0, .ref (a 0)), (1, .long x0), (3, .long x1), (5, .ref (a 13)), (8, .int (nI p9)), (9, .int (nI p9 - nI p9 / 9 * 9)), (10, .int (nI p9 / 9))]) hx hb dX10_findHeights_213 hl (by decide) rfl (fun ls hl => ?_)
                      refine lv_iinc (v := nI (p9 + 1)) (lv' := [(8, .int (nI (p9 + 1))), (7, .int 1), (0, .ref (a 0)), (1, .long x0), (3, .long x1), (5, .ref (a 13)), (9, .int (nI p9 - nI p9 / 9 * 9)), (10, .int (nI p9 / 9))]) hx hb dX10_findHeights_215 hl (k := 5) rfl (nI_1 _) (by decide) rfl (fun ls hl => ?_)
                      refine lv_goto (tgt := 71) hx hb dX10_findHeights_218 (by decide) ?_
                      exact ih71 (p9 + 1) true w_12 hlt_p9 hm (hc_v hp_15 hc c_17) hp_14 (lt_dec hlt_p9 hn71) _ _ hP hD hS ls (lv_sub hl [2, 3, 4, 5, 1, 0] rfl)
          refine lv_iload hx hb dX10_findHeights_71 (lv_at hl 5 rfl) ?_
          refine lv_bipush (v := 81) hx hb dX10_findHeights_73 (by decide) ?_
          refine lv_icmp_ge (tgt := 221) hx hb dX10_findHeights_75 (by decide) (fun c_18 => ?_) (fun c_18 => ?_)
          · refine lv_goto (tgt := 60) hx hb dX10_findHeights_221 (by decide) ?_
            exact ih60 v7_71 m0_71 hh (mz hc hn60 (by rw [hm]; rfl)) _ _ hP hD hS ls (lv_sub hl [0, 1, 2, 3, 4] rfl)
          · have hlt_p9 := ctr_lt (N := 81) (by decide) hp9 c_18
            refine lv_iload hx hb dX10_findHeights_78 (lv_at hl 5 rfl) ?_
            refine lv_bipush (v := 9) hx hb dX10_findHeights_80 (by decide) ?_
            refine lv_irem hx hb dX10_findHeights_82 (by decide) ?_
            refine lv_istore (lv' := [(9, .int ((nI p9) - (nI p9) / 9 * 9)), (0, .ref (a 0)), (1, .long x0), (3, .long x1), (5, .ref (a 13)), (7, .int (bI v7_71)), (8, .int (nI p9))]) hx hb dX10_findHeights_83 hl (by decide) rfl (fun ls hl => ?_)
            refine lv_iload hx hb dX10_findHeights_85 (lv_at hl 6 rfl) ?_
            refine lv_bipush (v := 9) hx hb dX10_findHeights_87 (by decide) ?_
            refine lv_idiv hx hb dX10_findHeights_89 (by decide) ?_
            refine lv_istore (lv' := [(10, .int ((nI p9) / 9)), (9, .int ((nI p9) - (nI p9) / 9 * 9)), (0, .ref (a 0)), (1, .long x0), (3, .long x1), (5, .ref (a 13)), (7, .int (bI v7_71)), (8, .int (nI p9))]) hx hb dX10_findHeights_90 hl (by decide) rfl (fun ls hl => ?_)
            refine lv_iload hx hb dX10_findHeights_92 (lv_at hl 1 rfl) ?_
            refine lv_bipush (v := 8) hx hb dX10_findHeights_94 (by decide) ?_
            refine lv_icmp_ge (tgt := 154) hx hb dX10_findHeights_96 (by decide) (fun c_19 => ?_) (fun c_19 => ?_)
            · exact lp154 v7_71 m0_71 hlt_p9 hc hh  _ _ hP hD hS ls (lv_sub hl [2, 3, 4, 5, 6, 7, 1, 0] rfl)
            · refine lv_aload_n hx hb dX10_findHeights_99 rfl (lv_at hl 2 rfl) ?_
              refine lv_lload_n hx hb dX10_findHeights_100 rfl (lv_at hl 4 rfl) ?_
              refine lv_iload hx hb dX10_findHeights_101 (lv_at hl 1 rfl) ?_
              refine lv_iload hx hb dX10_findHeights_103 (lv_at hl 0 rfl) ?_
              refine kR_i (As := [.long x1, .int ((nI p9) - (nI p9) / 9 * 9), .int ((nI p9) / 9)]) (rest := []) (q0 := 0) ⟨hx, hb, hml, hown, hts⟩ (c_X10_goesRight l D cy a _ J I (va_up R 13 m0_71) RJ x1 ((nI p9) - (nI p9) / 9 * 9) ((nI p9) / 9) ) (cwV 3 hts gX10_findHeights_X10_goesRight rfl rfl rfl (by decide +kernel) ⟨Nat.le_of_ble_eq_true rfl, Nat.le_of_ble_eq_true rfl⟩) hK hN hP hD rfl rfl rfl hl.1 rfl (Nat.le_of_ble_eq_true rfl) dX10_findHeights_105 ⟨Nat.le_of_ble_eq_true rfl, Nat.le_of_ble_eq_true rfl⟩ ?_
              refine lv_if_eq (tgt := 154) hx hb dX10_findHeights_108 (by decide) (fun c_20 => ?_) (fun c_20 => ?_)
              · replace c_20 := bI_f c_20
                exact lp154 v7_71 m0_71 hlt_p9 hc hh  _ _ hP hD hS ls (lv_sub hl [2, 3, 4, 5, 6, 7, 1, 0] rfl)
              · replace c_20 := bI_t c_20
                refine lv_aload hx hb dX10_findHeights_111 (lv_at hl 5 rfl) ?_
                refine lv_iload hx hb dX10_findHeights_113 (lv_at hl 7 rfl) ?_
                refine lv_iload hx hb dX10_findHeights_115 (lv_at hl 7 rfl) ?_
                refine lv_iconst (v := 1) hx hb dX10_findHeights_117 (by decide) ?_
                refine lv_iadd hx hb dX10_findHeights_118 ?_
                refine wtop_i (y := nI (p9 + 1)) (nI_1 _) ?_
                refine lv_iload hx hb dX10_findHeights_119 (lv_at hl 1 rfl) ?_
                refine lv_iload hx hb dX10_findHeights_121 (lv_at hl 0 rfl) ?_
                refine lv_iconst (v := 1) hx hb dX10_findHeights_123 (by decide) ?_
                refine lv_isub hx hb dX10_findHeights_124 ?_
                refine kS_i (As := [.int ((nI p9) - (nI p9) / 9 * 9), .int (((nI p9) / 9) - 1)]) (rest := [.int (nI (p9 + 1)), .int (nI p9), .ref (a 13)]) ⟨hx, hb, hml, hown, hts⟩ (c_X10_isDark l ((nI p9) - (nI p9) / 9 * 9) (((nI p9) / 9) - 1)) (va_cwS 2 hts gX10_findHeights_X10_isDark rfl rfl rfl (by decide +kernel) ⟨Nat.le_of_ble_eq_true rfl, Nat.le_of_ble_eq_true rfl⟩) rfl hl.1 rfl (Nat.le_of_ble_eq_true rfl) dX10_findHeights_125 ⟨Nat.le_of_ble_eq_true rfl, Nat.le_of_ble_eq_true rfl⟩ ?_
                refine lv_if_eq (tgt := 135) hx hb dX10_findHeights_128 (by decide) (fun c_21 => ?_) (fun c_21 => ?_)
                · replace c_21 := bI_f c_21
                  refine lv_iconst (v := (-1)) hx hb dX10_findHeights_135 (by decide) ?_
                  refine kW_i (As := [.ref (a 13), .int (nI p9), .int (nI (p9 + 1)), .int (-1)]) (rest := []) ⟨hx, hb, hml, hown, hts⟩ (t_X10_spread13 l D cy a _ J I (va_up R 13 m0_71) RJ p9 (p9 + 1) (-1) hlt_p9 (hx_1 ⟨p9, hlt_p9⟩ c_19) (Or.inr rfl) hh ) (va_cwS 4 hts gX10_findHeights_X10_spread rfl rfl rfl (by decide +kernel) ⟨Nat.le_of_ble_eq_true rfl, Nat.le_of_ble_eq_true rfl⟩) hK hN hP hD hS hA rfl hl.1 rfl (Nat.le_of_ble_eq_true rfl) dX10_findHeights_136 ⟨Nat.le_of_ble_eq_true rfl, Nat.le_of_ble_eq_true rfl⟩ (fun r_22 u H locs hw hP hD hS => ?_)
                  obtain ⟨w_23, zb_24, ⟨rfl, hp_25, hp_26⟩, rfl⟩ := hw
                  have hP : va_P D vwCl (MW cy a J I (va_up R 13 w_23) RJ) H := hP
                  have hD : va_D A (MW cy a J I (va_up R 13 w_23) RJ) := hD
                  refine lv_if_ne (tgt := 147) hx hb dX10_findHeights_139 (by decide) (fun c_27 => ?_) (fun c_27 => ?_)
                  · replace c_27 := bI_t c_27
                    refine lv_iconst (v := 1) hx hb dX10_findHeights_147 (by decide) ?_
                    refine lv_goto (tgt := 152) hx hb dX10_findHeights_148 (by decide) ?_
                    refine lv_istore (lv' := [(7, .int 1), (10, .int ((nI p9) / 9)), (9, .int ((nI p9) - (nI p9) / 9 * 9)), (0, .ref (a 0)), (1, .long x0), (3, .long x1), (5, .ref (a 13)), (8, .int (nI p9))]) hx hb dX10_findHeights_152 hl (by decide) rfl (fun ls hl => ?_)
                    exact lp154 true w_23 hlt_p9 (hc_t hp_26 hc c_27) hp_25  _ _ hP hD hS ls (lv_sub hl [3, 4, 5, 6, 0, 7, 2, 1] rfl)
                  · replace c_27 := bI_f c_27
                    refine lv_iload hx hb dX10_findHeights_142 (lv_at hl 6 rfl) ?_
                    refine lv_if_eq (tgt := 151) hx hb dX10_findHeights_144 (by decide) (fun c_28 => ?_) (fun c_28 => ?_)
                    · replace c_28 := bI_f c_28
                      refine lv_iconst (v := 0) hx hb dX10_findHeights_151 (by decide) ?_
                      refine lv_istore (lv' := [(7, .int 0), (10, .int ((nI p9) / 9)), (9, .int ((nI p9) - (nI p9) / 9 * 9)), (0, .ref (a 0)), (1, .long x0), (3, .long x1), (5, .ref (a 13)), (8, .int (nI p9))]) hx hb dX10_findHeights_152 hl (by decide) rfl (fun ls hl => ?_)
                      exact lp154 false w_23 hlt_p9 (hc_v hp_26 hc c_28) hp_25  _ _ hP hD hS ls (lv_sub hl [3, 4, 5, 6, 0, 7, 2, 1] rfl)
                    · replace c_28 := bI_t c_28
                      refine lv_iconst (v := 1) hx hb dX10_findHeights_147 (by decide) ?_
                      refine lv_goto (tgt := 152) hx hb dX10_findHeights_148 (by decide) ?_
                      refine lv_istore (lv' := [(7, .int 1), (10, .int ((nI p9) / 9)), (9, .int ((nI p9) - (nI p9) / 9 * 9)), (0, .ref (a 0)), (1, .long x0), (3, .long x1), (5, .ref (a 13)), (8, .int (nI p9))]) hx hb dX10_findHeights_152 hl (by decide) rfl (fun ls hl => ?_)
                      exact lp154 true w_23 hlt_p9 (hc_v hp_26 hc c_28) hp_25  _ _ hP hD hS ls (lv_sub hl [3, 4, 5, 6, 0, 7, 2, 1] rfl)
                · replace c_21 := bI_t c_21
                  refine lv_iconst (v := 1) hx hb dX10_findHeights_131 (by decide) ?_
                  refine lv_goto (tgt := 136) hx hb dX10_findHeights_132 (by decide) ?_
                  refine kW_i (As := [.ref (a 13), .int (nI p9), .int (nI (p9 + 1)), .int 1]) (rest := []) ⟨hx, hb, hml, hown, hts⟩ (t_X10_spread13 l D cy a _ J I (va_up R 13 m0_71) RJ p9 (p9 + 1) 1 hlt_p9 (hx_1 ⟨p9, hlt_p9⟩ c_19) (Or.inl rfl) hh ) (va_cwS 4 hts gX10_findHeights_X10_spread rfl rfl rfl (by decide +kernel) ⟨Nat.le_of_ble_eq_true rfl, Nat.le_of_ble_eq_true rfl⟩) hK hN hP hD hS hA rfl hl.1 rfl (Nat.le_of_ble_eq_true rfl) dX10_findHeights_136 ⟨Nat.le_of_ble_eq_true rfl, Nat.le_of_ble_eq_true rfl⟩ (fun r_29 u H locs hw hP hD hS => ?_)
                  obtain ⟨w_30, zb_31, ⟨rfl, hp_32, hp_33⟩, rfl⟩ := hw
                  have hP : va_P D vwCl (MW cy a J I (va_up R 13 w_30) RJ) H := hP
                  have hD : va_D A (MW cy a J I (va_up R 13 w_30) RJ) := hD
                  refine lv_if_ne (tgt := 147) hx hb dX10_findHeights_139 (by decide) (fun c_34 => ?_) (fun c_34 => ?_)
                  · replace c_34 := bI_t c_34
                    refine lv_iconst (v := 1) hx hb dX10_findHeights_147 (by decide) ?_
                    refine lv_goto (tgt := 152) hx hb dX10_findHeights_148 (by decide) ?_
                    refine lv_istore (lv' := [(7, .int 1), (10, .int ((nI p9) / 9)), (9, .int ((nI p9) - (nI p9) / 9 * 9)), (0, .ref (a 0)), (1, .long x0), (3, .long x1), (5, .ref (a 13)), (8, .int (nI p9))]) hx hb dX10_findHeights_152 hl (by decide) rfl (fun ls hl => ?_)
                    exact lp154 true w_30 hlt_p9 (hc_t hp_33 hc c_34) hp_32  _ _ hP hD hS ls (lv_sub hl [3, 4, 5, 6, 0, 7, 2, 1] rfl)
                  · replace c_34 := bI_f c_34
                    refine lv_iload hx hb dX10_findHeights_142 (lv_at hl 6 rfl) ?_
                    refine lv_if_eq (tgt := 151) hx hb dX10_findHeights_144 (by decide) (fun c_35 => ?_) (fun c_35 => ?_)
                    · replace c_35 := bI_f c_35
                      refine lv_iconst (v := 0) hx hb dX10_findHeights_151 (by decide) ?_
                      refine lv_istore (lv' := [(7, .int 0), (10, .int ((nI p9) / 9)), (9, .int ((nI p9) - (nI p9) / 9 * 9)), (0, .ref (a 0)), (1, .long x0), (3, .long x1), (5, .ref (a 13)), (8, .int (nI p9))]) hx hb dX10_findHeights_152 hl (by decide) rfl (fun ls hl => ?_)
                      exact lp154 false w_30 hlt_p9 (hc_v hp_33 hc c_35) hp_32  _ _ hP hD hS ls (lv_sub hl [3, 4, 5, 6, 0, 7, 2, 1] rfl)
                    · replace c_35 := bI_t c_35
                      refine lv_iconst (v := 1) hx hb dX10_findHeights_147 (by decide) ?_
                      refine lv_goto (tgt := 152) hx hb dX10_findHeights_148 (by decide) ?_
                      refine lv_istore (lv' := [(7, .int 1), (10, .int ((nI p9) / 9)), (9, .int ((nI p9) - (nI p9) / 9 * 9)), (0, .ref (a 0)), (1, .long x0), (3, .long x1), (5, .ref (a 13)), (8, .int (nI p9))]) hx hb dX10_findHeights_152 hl (by decide) rfl (fun ls hl => ?_)
                      exact lp154 true w_30 hlt_p9 (hc_v hp_33 hc c_35) hp_32  _ _ hP hD hS ls (lv_sub hl [3, 4, 5, 6, 0, 7, 2, 1] rfl)
      refine lv_iload hx hb dX10_findHeights_60 (lv_at hl 4 rfl) ?_
      refine lv_if_eq (tgt := 224) hx hb dX10_findHeights_62 (by decide) (fun c_36 => ?_) (fun c_36 => ?_)
      · replace c_36 := bI_f c_36
        exact wret_v hx hb hr hlocks (J, I, (va_up R 13 m0_60), RJ) ⟨m0_60, trivial, rfl⟩ hP hD hS dX10_findHeights_224
      · replace c_36 := bI_t c_36
        refine lv_iconst (v := 0) hx hb dX10_findHeights_65 (by decide) ?_
        refine lv_istore (lv' := [(7, .int 0), (0, .ref (a 0)), (1, .long x0), (3, .long x1), (5, .ref (a 13))]) hx hb dX10_findHeights_66 hl (by decide) rfl (fun ls hl => ?_)
        refine lv_iconst (v := 0) hx hb dX10_findHeights_68 (by decide) ?_
        refine lv_istore (lv' := [(8, .int 0), (7, .int 0), (0, .ref (a 0)), (1, .long x0), (3, .long x1), (5, .ref (a 13))]) hx hb dX10_findHeights_69 hl (by decide) rfl (fun ls hl => ?_)
        exact lp71 _ 0 false m0_60 (Nat.zero_le _) c_36 (spr_0 hh).2 hh (Nat.lt_succ_self _) _ _ hP hD hS ls (lv_sub hl [2, 3, 4, 5, 1, 0] rfl)
  have lp7 : ∀ (n7 : Nat), ∀ (i : Nat) (v6_7 : Int32) (m0_7 : Nat → Int32), (i ≤ 81) → (fOk (J 0) i v6_7) → (aF m0_7 i) → (81 - i) < n7 → ∀ (H : Heap) (locs : List Loc), va_P D vwCl (MW cy a J I (va_up R 13 m0_7) RJ) H → va_D A (MW cy a J I (va_up R 13 m0_7) RJ) → va_S A s.heap H locs → ∀ (ls : Array Slot), lv_has ls 11 [(0, .ref (a 0)), (1, .long x0), (3, .long x1), (5, .ref (a 13)), (6, .int v6_7), (7, .int (nI (81 - i) - 1))] → W p l e (headSpec wsX10_findHeights ({ frames := 3, cells := 0, slots := 0, locals := 69 })).room s m ([.ref (a 0), .long x0, .long x1, .ref (a 13)] : List Value).toArray below meth c H locs 0 0 (MQ below (va_Qv (fun (u : MS) => ∃ (w0 : Nat → Int32), (True) ∧ u = (J, I, (va_up R 13 w0), RJ)) (BW D A (MWu cy a)) A) ([.ref (a 0), .long x0, .long x1, .ref (a 13)] : List Value).toArray s 0 0 A) (F0 m 7 ls []) := by
    intro n7
    induction n7 with
    | zero => intro i v6_7 m0_7 hi hf ha hn; exact absurd hn (Nat.not_lt_zero _)
    | succ n7 ih7 =>
      intro i v6_7 m0_7 hi hf ha hn7 H locs hP hD hS ls hl
      refine lv_iload hx hb dX10_findHeights_7 (lv_at hl 5 rfl) ?_
      refine lv_if_lt (tgt := 51) hx hb dX10_findHeights_9 (by decide) (fun c_37 => ?_) (fun c_37 => ?_)
      · have hie := gw_ge (N := 81) (by decide) hi c_37
        refine lv_aload hx hb dX10_findHeights_51 (lv_at hl 3 rfl) ?_
        refine lv_iload hx hb dX10_findHeights_53 (lv_at hl 4 rfl) ?_
        refine lv_iconst (v := 0) hx hb dX10_findHeights_55 (by decide) ?_
        refine va_iast hx hb hK hP hD hS 13 0 rfl rfl (fOk_end hie hf hfl) dX10_findHeights_56 (fun H locs hP hD hS => ?_)
        have hP : va_P D vwCl (MW cy a J I (va_up R 13 (upd m0_7 v6_7.toNatClampNeg 0)) RJ) H := hP
        have hD : va_D A (MW cy a J I (va_up R 13 (upd m0_7 v6_7.toNatClampNeg 0)) RJ) := hD
        refine lv_iconst (v := 1) hx hb dX10_findHeights_57 (by decide) ?_
        refine lv_istore (lv' := [(7, .int 1), (0, .ref (a 0)), (1, .long x0), (3, .long x1), (5, .ref (a 13)), (6, .int v6_7)]) hx hb dX10_findHeights_58 hl (by decide) rfl (fun ls hl => ?_)
        exact lp60 _ true (upd m0_7 v6_7.toNatClampNeg 0) (hB_1 hie ha (fOk_end hie hf hfl)) (Nat.lt_succ_self _) _ _ hP hD hS ls (lv_sub hl [1, 2, 3, 4, 0] rfl)
      · obtain ⟨j, hj, he⟩ := gw_lt (N := 81) (by decide) hi c_37
        rw [he] at hl
        refine lv_aload hx hb dX10_findHeights_12 (lv_at hl 3 rfl) ?_
        refine lv_iload hx hb dX10_findHeights_14 (lv_at hl 5 rfl) ?_
        refine lv_ldc (v := 1000000) hx hb hown hw0 dX10_findHeights_16 ?_
        refine va_iast hx hb hK hP hD hS 13 0 rfl rfl (vp_in_nI (by omega) (by decide)) dX10_findHeights_18 (fun H locs hP hD hS => ?_)
        have hP : va_P D vwCl (MW cy a J I (va_up R 13 (upd m0_7 (nI j).toNatClampNeg 1000000)) RJ) H := hP
        have hD : va_D A (MW cy a J I (va_up R 13 (upd m0_7 (nI j).toNatClampNeg 1000000)) RJ) := hD
        refine lv_aload_n hx hb dX10_findHeights_19 rfl (lv_at hl 0 rfl) ?_
        refine lv_iload hx hb dX10_findHeights_20 (lv_at hl 5 rfl) ?_
        refine lv_bipush (v := 9) hx hb dX10_findHeights_22 (by decide) ?_
        refine lv_irem hx hb dX10_findHeights_24 (by decide) ?_
        refine lv_iload hx hb dX10_findHeights_25 (lv_at hl 5 rfl) ?_
        refine lv_bipush (v := 9) hx hb dX10_findHeights_27 (by decide) ?_
        refine lv_idiv hx hb dX10_findHeights_29 (by decide) ?_
        refine kR_i (As := [.int ((nI j) - (nI j) / 9 * 9), .int ((nI j) / 9)]) (rest := []) (q0 := 0) ⟨hx, hb, hml, hown, hts⟩ (c_X10_isPoint l D cy a _ J I (va_up R 13 (upd m0_7 (nI j).toNatClampNeg 1000000)) RJ ((nI j) - (nI j) / 9 * 9) ((nI j) / 9) ) (cwV 2 hts gX10_findHeights_X10_isPoint rfl rfl rfl (by decide +kernel) ⟨Nat.le_of_ble_eq_true rfl, Nat.le_of_ble_eq_true rfl⟩) hK hN hP hD rfl rfl rfl hl.1 rfl (Nat.le_of_ble_eq_true rfl) dX10_findHeights_30 ⟨Nat.le_of_ble_eq_true rfl, Nat.le_of_ble_eq_true rfl⟩ ?_
        refine lv_if_eq (tgt := 41) hx hb dX10_findHeights_33 (by decide) (fun c_38 => ?_) (fun c_38 => ?_)
        · replace c_38 := bI_f c_38
          refine lv_iload hx hb dX10_findHeights_41 (lv_at hl 4 rfl) ?_
          refine lv_istore (lv' := [(6, .int v6_7), (0, .ref (a 0)), (1, .long x0), (3, .long x1), (5, .ref (a 13)), (7, .int (nI j))]) hx hb dX10_findHeights_43 hl (by decide) rfl (fun ls hl => ?_)
          refine lv_iinc (v := nI (81 - (i + 1)) - 1) (lv' := [(7, .int (nI (81 - (i + 1)) - 1)), (6, .int v6_7), (0, .ref (a 0)), (1, .long x0), (3, .long x1), (5, .ref (a 13))]) hx hb dX10_findHeights_45 hl (k := 5) rfl (gw_dec hj) (by decide) rfl (fun ls hl => ?_)
          refine lv_goto (tgt := 7) hx hb dX10_findHeights_48 (by decide) ?_
          exact ih7 (i + 1) v6_7 (upd m0_7 (nI j).toNatClampNeg 1000000) (by omega) (fOk_f hj hf c_38) (aF_s hj ha) (by omega) _ _ hP hD hS ls (lv_sub hl [2, 3, 4, 5, 1, 0] rfl)
        · replace c_38 := bI_t c_38
          refine lv_iload hx hb dX10_findHeights_36 (lv_at hl 5 rfl) ?_
          refine lv_goto (tgt := 43) hx hb dX10_findHeights_38 (by decide) ?_
          refine lv_istore (lv' := [(6, .int (nI j)), (0, .ref (a 0)), (1, .long x0), (3, .long x1), (5, .ref (a 13)), (7, .int (nI j))]) hx hb dX10_findHeights_43 hl (by decide) rfl (fun ls hl => ?_)
          refine lv_iinc (v := nI (81 - (i + 1)) - 1) (lv' := [(7, .int (nI (81 - (i + 1)) - 1)), (6, .int (nI j)), (0, .ref (a 0)), (1, .long x0), (3, .long x1), (5, .ref (a 13))]) hx hb dX10_findHeights_45 hl (k := 5) rfl (gw_dec hj) (by decide) rfl (fun ls hl => ?_)
          refine lv_goto (tgt := 7) hx hb dX10_findHeights_48 (by decide) ?_
          exact ih7 (i + 1) (nI j) (upd m0_7 (nI j).toNatClampNeg 1000000) (by omega) (fOk_t hj) (aF_s hj ha) (by omega) _ _ hP hD hS ls (lv_sub hl [2, 3, 4, 5, 1, 0] rfl)
  refine lv_iconst (v := (-1)) hx hb dX10_findHeights_0 (by decide) ?_
  refine lv_istore (lv' := [(6, .int (-1)), (0, .ref (a 0)), (1, .long x0), (3, .long x1), (5, .ref (a 13))]) hx hb dX10_findHeights_1 hl (by decide) rfl (fun ls hl => ?_)
  refine lv_bipush (v := 80) hx hb dX10_findHeights_3 (by decide) ?_
  refine wtop_i (y := nI (81 - 0) - 1) (by decide) ?_
  refine lv_istore (lv' := [(7, .int (nI (81 - 0) - 1)), (6, .int (-1)), (0, .ref (a 0)), (1, .long x0), (3, .long x1), (5, .ref (a 13))]) hx hb dX10_findHeights_5 hl (by decide) rfl (fun ls hl => ?_)
  exact lp7 _ 0 ((-1) : Int32) (R 13) (by omega) fOk_0 aF_0 (Nat.lt_succ_self _) _ _ hP hD hS ls (lv_sub hl [2, 3, 4, 5, 1, 0] rfl)
set_option maxHeartbeats 4000000 in
set_option maxRecDepth 100000 in
theorem t_X10_findHeights14 (l : Launch) (D : va_G) (cy : Nat → ClassId) (a : Nat → Nat) (sz : Nat) (J : Nat → Int64) (I : Nat → Int32) (R : Nat → Nat → Int32) (RJ : Nat → Nat → Int64) (x0 : Int64) (x1 : Int64) (hfl : ¬ J 0 = 0) : Met l yX10_findHeights wsX10_findHeights ({ frames := 3, cells := 0, slots := 0, locals := 69 }) (va_Pc [.ref (a 0), .long x0, .long x1, .ref (a 14)] (PW D cy sz (MW cy a J I R RJ))) (va_Qv (fun (u : MS) => ∃ (w0 : Nat → Int32), (True) ∧ u = (J, I, (va_up R 14 w0), RJ)) (BW D (va_A (MW cy a J I R RJ) sz) (MWu cy a)) (va_A (MW cy a J I R RJ) sz)) 0 0 (va_A (MW cy a J I R RJ) sz) := by
  refine Met.ofW (cc := cX10_findHeights) (maxL := 11) (ret := none) (by decide) rfl ?_
  intro p e s m args below meth c s₁ B hml hv
  obtain ⟨rfl, rfl, hP, hK, hN, hD0⟩ := hv
  have hx := B.exec
  have hb := B.bytes
  have hr := B.returns
  have hts := atoms_spec (ws := wsX10_findHeights) B.pre
  have hown : s.vm.findClass RX10 = some m.cls := findClass_of_methodNamed B.named
  have hlocks := B.notSynchronized
  have hw0 := hts (.constant RX10 242 (1000000)) (by decide +kernel)
  have hD := hD0.self (sz := s.heap.size)
  generalize hAe : va_A (MW cy a J I R RJ) s.heap.size = A at hD ⊢
  have hA : ∀ q : Nat, s.heap.size ≤ q → A q := fun q h => by rw [← hAe]; exact Or.inr h
  have hS : va_S A s.heap s.heap [] := va_S.rf
  have hl := lv_entry ([.ref (a 0), .long x0, .long x1, .ref (a 14)]) (n := 11) (Nat.le_of_ble_eq_true rfl)
  rw [lg_entry_eq]
  generalize (lg_sl ([.ref (a 0), .long x0, .long x1, .ref (a 14)]) ++ List.replicate (11 - (lg_sl ([.ref (a 0), .long x0, .long x1, .ref (a 14)])).length) Slot.unset).toArray = ls at hl ⊢
  have hl : lv_has ls 11 [(0, .ref (a 0)), (1, .long x0), (3, .long x1), (5, .ref (a 14))] := hl
  have hP : va_P D vwCl (MW cy a J I (va_up R 14 (R 14)) RJ) s.heap := hP
  have hD : va_D A (MW cy a J I (va_up R 14 (R 14)) RJ) := hD
  have lp60 : ∀ (n60 : Nat), ∀ (v7_60 : Bool) (m0_60 : Nat → Int32), (hB m0_60) → (cF m0_60 81 + bN v7_60) < n60 → ∀ (H : Heap) (locs : List Loc), va_P D vwCl (MW cy a J I (va_up R 14 m0_60) RJ) H → va_D A (MW cy a J I (va_up R 14 m0_60) RJ) → va_S A s.heap H locs → ∀ (ls : Array Slot), lv_has ls 11 [(0, .ref (a 0)), (1, .long x0), (3, .long x1), (5, .ref (a 14)), (7, .int (bI v7_60))] → W p l e (headSpec wsX10_findHeights ({ frames := 3, cells := 0, slots := 0, locals := 69 })).room s m ([.ref (a 0), .long x0, .long x1, .ref (a 14)] : List Value).toArray below meth c H locs 0 0 (MQ below (va_Qv (fun (u : MS) => ∃ (w0 : Nat → Int32), (True) ∧ u = (J, I, (va_up R 14 w0), RJ)) (BW D A (MWu cy a)) A) ([.ref (a 0), .long x0, .long x1, .ref (a 14)] : List Value).toArray s 0 0 A) (F0 m 60 ls []) := by
    intro n60
    induction n60 with
    | zero => intro v7_60 m0_60 hh hn; exact absurd hn (Nat.not_lt_zero _)
    | succ n60 ih60 =>
      intro v7_60 m0_60 hh hn60 H locs hP hD hS ls hl
      have lp71 : ∀ (n71 : Nat), ∀ (p9 : Nat) (v7_71 : Bool) (m0_71 : Nat → Int32), (p9 ≤ 81) → (v7_60 = true) → (cF m0_71 81 + bN v7_71 ≤ cF m0_60 81) → (hB m0_71) → (81 - p9) < n71 → ∀ (H : Heap) (locs : List Loc), va_P D vwCl (MW cy a J I (va_up R 14 m0_71) RJ) H → va_D A (MW cy a J I (va_up R 14 m0_71) RJ) → va_S A s.heap H locs → ∀ (ls : Array Slot), lv_has ls 11 [(0, .ref (a 0)), (1, .long x0), (3, .long x1), (5, .ref (a 14)), (7, .int (bI v7_71)), (8, .int (nI p9))] → W p l e (headSpec wsX10_findHeights ({ frames := 3, cells := 0, slots := 0, locals := 69 })).room s m ([.ref (a 0), .long x0, .long x1, .ref (a 14)] : List Value).toArray below meth c H locs 0 0 (MQ below (va_Qv (fun (u : MS) => ∃ (w0 : Nat → Int32), (True) ∧ u = (J, I, (va_up R 14 w0), RJ)) (BW D A (MWu cy a)) A) ([.ref (a 0), .long x0, .long x1, .ref (a 14)] : List Value).toArray s 0 0 A) (F0 m 71 ls []) := by
        intro n71
        induction n71 with
        | zero => intro p9 v7_71 m0_71 hp9 hm hc hh hn; exact absurd hn (Nat.not_lt_zero _)
        | succ n71 ih71 =>
          intro p9 v7_71 m0_71 hp9 hm hc hh hn71 H locs hP hD hS ls hl
          have lp154 : ∀ (v7_154 : Bool) (m0_154 : Nat → Int32), (p9 < 81) → (cF m0_154 81 + bN v7_154 ≤ cF m0_60 81) → (hB m0_154) → ∀ (H : Heap) (locs : List Loc), va_P D vwCl (MW cy a J I (va_up R 14 m0_154) RJ) H → va_D A (MW cy a J I (va_up R 14 m0_154) RJ) → va_S A s.heap H locs → ∀ (ls : Array Slot), lv_has ls 11 [(0, .ref (a 0)), (1, .long x0), (3, .long x1), (5, .ref (a 14)), (7, .int (bI v7_154)), (8, .int (nI p9)), (9, .int (nI p9 - nI p9 / 9 * 9)), (10, .int (nI p9 / 9))] → W p l e (headSpec wsX10_findHeights ({ frames := 3, cells := 0, slots := 0, locals := 69 })).room s m ([.ref (a 0), .long x0, .long x1, .ref (a 14)] : List Value).toArray below meth c H locs 0 0 (MQ below (va_Qv (fun (u : MS) => ∃ (w0 : Nat → Int32), (True) ∧ u = (J, I, (va_up R 14 w0), RJ)) (BW D A (MWu cy a)) A) ([.ref (a 0), .long x0, .long x1, .ref (a 14)] : List Value).toArray s 0 0 A) (F0 m 154 ls []) := by
            intro v7_154 m0_154 hlt_p9 hc hh H locs hP hD hS ls hl
            refine lv_iload hx hb dX10_findHeights_154 (lv_at hl 7 rfl) ?_
            refine lv_bipush (v := 8) hx hb dX10_findHeights_156 (by decide) ?_
            refine lv_icmp_ge (tgt := 215) hx hb dX10_findHeights_158 (by decide) (fun c_1 => ?_) (fun c_1 => ?_)
            · refine lv_iinc (v := nI (p9 + 1)) (lv' := [(8, .int (nI (p9 + 1))), (0, .ref (a 0)), (1, .long x0), (3, .long x1), (5, .ref (a 14)), (7, .int (bI v7_154)), (9, .int (nI p9 - nI p9 / 9 * 9)), (10, .int (nI p9 / 9))]) hx hb dX10_findHeights_215 hl (k := 5) rfl (nI_1 _) (by decide) rfl (fun ls hl => ?_)
              refine lv_goto (tgt := 71) hx hb dX10_findHeights_218 (by decide) ?_
              exact ih71 (p9 + 1) v7_154 m0_154 hlt_p9 hm hc hh (lt_dec hlt_p9 hn71) _ _ hP hD hS ls (lv_sub hl [1, 2, 3, 4, 5, 0] rfl)
            · refine lv_aload_n hx hb dX10_findHeights_161 rfl (lv_at hl 0 rfl) ?_
              refine lv_lload_n hx hb dX10_findHeights_162 rfl (lv_at hl 1 rfl) ?_
              refine lv_iload hx hb dX10_findHeights_163 (lv_at hl 6 rfl) ?_
              refine lv_iload hx hb dX10_findHeights_165 (lv_at hl 7 rfl) ?_
              refine kR_i (As := [.long x0, .int (nI p9 - nI p9 / 9 * 9), .int (nI p9 / 9)]) (rest := []) (q0 := 0) ⟨hx, hb, hml, hown, hts⟩ (c_X10_goesDown l D cy a _ J I (va_up R 14 m0_154) RJ x0 (nI p9 - nI p9 / 9 * 9) (nI p9 / 9) ) (cwV 3 hts gX10_findHeights_X10_goesDown rfl rfl rfl (by decide +kernel) ⟨Nat.le_of_ble_eq_true rfl, Nat.le_of_ble_eq_true rfl⟩) hK hN hP hD rfl rfl rfl hl.1 rfl (Nat.le_of_ble_eq_true rfl) dX10_findHeights_167 ⟨Nat.le_of_ble_eq_true rfl, Nat.le_of_ble_eq_true rfl⟩ ?_
              refine lv_if_eq (tgt := 215) hx hb dX10_findHeights_170 (by decide) (fun c_2 => ?_) (fun c_2 => ?_)
              · replace c_2 := bI_f c_2
                refine lv_iinc (v := nI (p9 + 1)) (lv' := [(8, .int (nI (p9 + 1))), (0, .ref (a 0)), (1, .long x0), (3, .long x1), (5, .ref (a 14)), (7, .int (bI v7_154)), (9, .int (nI p9 - nI p9 / 9 * 9)), (10, .int (nI p9 / 9))]) hx hb dX10_findHeights_215 hl (k := 5) rfl (nI_1 _) (by decide) rfl (fun ls hl => ?_)
                refine lv_goto (tgt := 71) hx hb dX10_findHeights_218 (by decide) ?_
                exact ih71 (p9 + 1) v7_154 m0_154 hlt_p9 hm hc hh (lt_dec hlt_p9 hn71) _ _ hP hD hS ls (lv_sub hl [1, 2, 3, 4, 5, 0] rfl)
              · replace c_2 := bI_t c_2
                refine lv_aload hx hb dX10_findHeights_173 (lv_at hl 3 rfl) ?_
                refine lv_iload hx hb dX10_findHeights_175 (lv_at hl 5 rfl) ?_
                refine lv_iload hx hb dX10_findHeights_177 (lv_at hl 5 rfl) ?_
                refine lv_bipush (v := 9) hx hb dX10_findHeights_179 (by decide) ?_
                refine lv_iadd hx hb dX10_findHeights_181 ?_
                refine wtop_i (y := nI (p9 + 9)) (by rw [← nI_add]; rfl) ?_
                refine lv_iload hx hb dX10_findHeights_182 (lv_at hl 6 rfl) ?_
                refine lv_iload hx hb dX10_findHeights_184 (lv_at hl 7 rfl) ?_
                refine kS_i (As := [.int (nI p9 - nI p9 / 9 * 9), .int (nI p9 / 9)]) (rest := [.int (nI (p9 + 9)), .int (nI p9), .ref (a 14)]) ⟨hx, hb, hml, hown, hts⟩ (c_X10_isDark l (nI p9 - nI p9 / 9 * 9) (nI p9 / 9)) (va_cwS 2 hts gX10_findHeights_X10_isDark rfl rfl rfl (by decide +kernel) ⟨Nat.le_of_ble_eq_true rfl, Nat.le_of_ble_eq_true rfl⟩) rfl hl.1 rfl (Nat.le_of_ble_eq_true rfl) dX10_findHeights_186 ⟨Nat.le_of_ble_eq_true rfl, Nat.le_of_ble_eq_true rfl⟩ ?_
                refine lv_if_eq (tgt := 196) hx hb dX10_findHeights_189 (by decide) (fun c_3 => ?_) (fun c_3 => ?_)
                · replace c_3 := bI_f c_3
                  refine lv_iconst (v := (-1)) hx hb dX10_findHeights_196 (by decide) ?_
                  refine kW_i (As := [.ref (a 14), .int (nI p9), .int (nI (p9 + 9)), .int (-1)]) (rest := []) ⟨hx, hb, hml, hown, hts⟩ (t_X10_spread14 l D cy a _ J I (va_up R 14 m0_154) RJ p9 (p9 + 9) (-1) hlt_p9 (hx_9 ⟨p9, hlt_p9⟩ c_1) (Or.inr rfl) hh ) (va_cwS 4 hts gX10_findHeights_X10_spread rfl rfl rfl (by decide +kernel) ⟨Nat.le_of_ble_eq_true rfl, Nat.le_of_ble_eq_true rfl⟩) hK hN hP hD hS hA rfl hl.1 rfl (Nat.le_of_ble_eq_true rfl) dX10_findHeights_197 ⟨Nat.le_of_ble_eq_true rfl, Nat.le_of_ble_eq_true rfl⟩ (fun r_4 u H locs hw hP hD hS => ?_)
                  obtain ⟨w_5, zb_6, ⟨rfl, hp_7, hp_8⟩, rfl⟩ := hw
                  have hP : va_P D vwCl (MW cy a J I (va_up R 14 w_5) RJ) H := hP
                  have hD : va_D A (MW cy a J I (va_up R 14 w_5) RJ) := hD
                  refine lv_if_ne (tgt := 208) hx hb dX10_findHeights_200 (by decide) (fun c_9 => ?_) (fun c_9 => ?_)
                  · replace c_9 := bI_t c_9
                    refine lv_iconst (v := 1) hx hb dX10_findHeights_208 (by decide) ?_
                    refine lv_goto (tgt := 213) hx hb dX10_findHeights_209 (by decide) ?_
                    refine lv_istore (lv' := [(7, .int 1), (0, .ref (a 0)), (1, .long x0), (3, .long x1), (5, .ref (a 14)), (8, .int (nI p9)), (9, .int (nI p9 - nI p9 / 9 * 9)), (10, .int (nI p9 / 9))]) hx hb dX10_findHeights_213 hl (by decide) rfl (fun ls hl => ?_)
                    refine lv_iinc (v := nI (p9 + 1)) (lv' := [(8, .int (nI (p9 + 1))), (7, .int 1), (0, .ref (a 0)), (1, .long x0), (3, .long x1), (5, .ref (a 14)), (9, .int (nI p9 - nI p9 / 9 * 9)), (10, .int (nI p9 / 9))]) hx hb dX10_findHeights_215 hl (k := 5) rfl (nI_1 _) (by decide) rfl (fun ls hl => ?_)
                    refine lv_goto (tgt := 71) hx hb dX10_findHeights_218 (by decide) ?_
                    exact ih71 (p9 + 1) true w_5 hlt_p9 hm (hc_t hp_8 hc c_9) hp_7 (lt_dec hlt_p9 hn71) _ _ hP hD hS ls (lv_sub hl [2, 3, 4, 5, 1, 0] rfl)
                  · replace c_9 := bI_f c_9
                    refine lv_iload hx hb dX10_findHeights_203 (lv_at hl 4 rfl) ?_
                    refine lv_if_eq (tgt := 212) hx hb dX10_findHeights_205 (by decide) (fun c_10 => ?_) (fun c_10 => ?_)
                    · replace c_10 := bI_f c_10
                      refine lv_iconst (v := 0) hx hb dX10_findHeights_212 (by decide) ?_
                      refine lv_istore (lv' := [(7, .int 0), (0, .ref (a 0)), (1, .long x0), (3, .long x1), (5, .ref (a 14)), (8, .int (nI p9)), (9, .int (nI p9 - nI p9 / 9 * 9)), (10, .int (nI p9 / 9))]) hx hb dX10_findHeights_213 hl (by decide) rfl (fun ls hl => ?_)
                      refine lv_iinc (v := nI (p9 + 1)) (lv' := [(8, .int (nI (p9 + 1))), (7, .int 0), (0, .ref (a 0)), (1, .long x0), (3, .long x1), (5, .ref (a 14)), (9, .int (nI p9 - nI p9 / 9 * 9)), (10, .int (nI p9 / 9))]) hx hb dX10_findHeights_215 hl (k := 5) rfl (nI_1 _) (by decide) rfl (fun ls hl => ?_)
                      refine lv_goto (tgt := 71) hx hb dX10_findHeights_218 (by decide) ?_
                      exact ih71 (p9 + 1) false w_5 hlt_p9 hm (hc_v hp_8 hc c_10) hp_7 (lt_dec hlt_p9 hn71) _ _ hP hD hS ls (lv_sub hl [2, 3, 4, 5, 1, 0] rfl)
                    · replace c_10 := bI_t c_10
                      refine lv_iconst (v := 1) hx hb dX10_findHeights_208 (by decide) ?_
                      refine lv_goto (tgt := 213) hx hb dX10_findHeights_209 (by decide) ?_
                      refine lv_istore (lv' := [(7, .int 1), (0, .ref (a 0)), (1, .long x0), (3, .long x1), (5, .ref (a 14)), (8, .int (nI p9)), (9, .int (nI p9 - nI p9 / 9 * 9)), (10, .int (nI p9 / 9))]) hx hb dX10_findHeights_213 hl (by decide) rfl (fun ls hl => ?_)
                      refine lv_iinc (v := nI (p9 + 1)) (lv' := [(8, .int (nI (p9 + 1))), (7, .int 1), (0, .ref (a 0)), (1, .long x0), (3, .long x1), (5, .ref (a 14)), (9, .int (nI p9 - nI p9 / 9 * 9)), (10, .int (nI p9 / 9))]) hx hb dX10_findHeights_215 hl (k := 5) rfl (nI_1 _) (by decide) rfl (fun ls hl => ?_)
                      refine lv_goto (tgt := 71) hx hb dX10_findHeights_218 (by decide) ?_
                      exact ih71 (p9 + 1) true w_5 hlt_p9 hm (hc_v hp_8 hc c_10) hp_7 (lt_dec hlt_p9 hn71) _ _ hP hD hS ls (lv_sub hl [2, 3, 4, 5, 1, 0] rfl)
                · replace c_3 := bI_t c_3
                  refine lv_iconst (v := 1) hx hb dX10_findHeights_192 (by decide) ?_
                  refine lv_goto (tgt := 197) hx hb dX10_findHeights_193 (by decide) ?_
                  refine kW_i (As := [.ref (a 14), .int (nI p9), .int (nI (p9 + 9)), .int 1]) (rest := []) ⟨hx, hb, hml, hown, hts⟩ (t_X10_spread14 l D cy a _ J I (va_up R 14 m0_154) RJ p9 (p9 + 9) 1 hlt_p9 (hx_9 ⟨p9, hlt_p9⟩ c_1) (Or.inl rfl) hh ) (va_cwS 4 hts gX10_findHeights_X10_spread rfl rfl rfl (by decide +kernel) ⟨Nat.le_of_ble_eq_true rfl, Nat.le_of_ble_eq_true rfl⟩) hK hN hP hD hS hA rfl hl.1 rfl (Nat.le_of_ble_eq_true rfl) dX10_findHeights_197 ⟨Nat.le_of_ble_eq_true rfl, Nat.le_of_ble_eq_true rfl⟩ (fun r_11 u H locs hw hP hD hS => ?_)
                  obtain ⟨w_12, zb_13, ⟨rfl, hp_14, hp_15⟩, rfl⟩ := hw
                  have hP : va_P D vwCl (MW cy a J I (va_up R 14 w_12) RJ) H := hP
                  have hD : va_D A (MW cy a J I (va_up R 14 w_12) RJ) := hD
                  refine lv_if_ne (tgt := 208) hx hb dX10_findHeights_200 (by decide) (fun c_16 => ?_) (fun c_16 => ?_)
                  · replace c_16 := bI_t c_16
                    refine lv_iconst (v := 1) hx hb dX10_findHeights_208 (by decide) ?_
                    refine lv_goto (tgt := 213) hx hb dX10_findHeights_209 (by decide) ?_
                    refine lv_istore (lv' := [(7, .int 1), (0, .ref (a 0)), (1, .long x0), (3, .long x1), (5, .ref (a 14)), (8, .int (nI p9)), (9, .int (nI p9 - nI p9 / 9 * 9)), (10, .int (nI p9 / 9))]) hx hb dX10_findHeights_213 hl (by decide) rfl (fun ls hl => ?_)
                    refine lv_iinc (v := nI (p9 + 1)) (lv' := [(8, .int (nI (p9 + 1))), (7, .int 1), (0, .ref (a 0)), (1, .long x0), (3, .long x1), (5, .ref (a 14)), (9, .int (nI p9 - nI p9 / 9 * 9)), (10, .int (nI p9 / 9))]) hx hb dX10_findHeights_215 hl (k := 5) rfl (nI_1 _) (by decide) rfl (fun ls hl => ?_)
                    refine lv_goto (tgt := 71) hx hb dX10_findHeights_218 (by decide) ?_
                    exact ih71 (p9 + 1) true w_12 hlt_p9 hm (hc_t hp_15 hc c_16) hp_14 (lt_dec hlt_p9 hn71) _ _ hP hD hS ls (lv_sub hl [2, 3, 4, 5, 1, 0] rfl)
                  · replace c_16 := bI_f c_16
                    refine lv_iload hx hb dX10_findHeights_203 (lv_at hl 4 rfl) ?_
                    refine lv_if_eq (tgt := 212) hx hb dX10_findHeights_205 (by decide) (fun c_17 => ?_) (fun c_17 => ?_)
                    · replace c_17 := bI_f c_17
                      refine lv_iconst (v := 0) hx hb dX10_findHeights_212 (by decide) ?_
                      refine lv_istore (lv' := [(7, .int 0), (0, .ref (a 0)), (1, .long x0), (3, .long x1), (5, .ref (a 14)), (8, .int (nI p9)), (9, .int (nI p9 - nI p9 / 9 * 9)), (10, .int (nI p9 / 9))]) hx hb dX10_findHeights_213 hl (by decide) rfl (fun ls hl => ?_)
                      refine lv_iinc (v := nI (p9 + 1)) (lv' := [(8, .int (nI (p9 + 1))), (7, .int 0), (0, .ref (a 0)), (1, .long x0), (3, .long x1), (5, .ref (a 14)), (9, .int (nI p9 - nI p9 / 9 * 9)), (10, .int (nI p9 / 9))]) hx hb dX10_findHeights_215 hl (k := 5) rfl (nI_1 _) (by decide) rfl (fun ls hl => ?_)
                      refine lv_goto (tgt := 71) hx hb dX10_findHeights_218 (by decide) ?_
                      exact ih71 (p9 + 1) false w_12 hlt_p9 hm (hc_v hp_15 hc c_17) hp_14 (lt_dec hlt_p9 hn71) _ _ hP hD hS ls (lv_sub hl [2, 3, 4, 5, 1, 0] rfl)
                    · replace c_17 := bI_t c_17
                      refine lv_iconst (v := 1) hx hb dX10_findHeights_208 (by decide) ?_
                      refine lv_goto (tgt := 213) hx hb dX10_findHeights_209 (by decide) ?_
                      refine lv_istore (lv' := [(7, .int 1), (0, .ref (a 0)), (1, .long x0), (3, .long x1), (5, .ref (a 14)), (8, .int (nI p9)), (9, .int (nI p9 - nI p9 / 9 * 9)), (10, .int (nI p9 / 9))]) hx hb dX10_findHeights_213 hl (by decide) rfl (fun ls hl => ?_)
                      refine lv_iinc (v := nI (p9 + 1)) (lv' := [(8, .int (nI (p9 + 1))), (7, .int 1), (0, .ref (a 0)), (1, .long x0), (3, .long x1), (5, .ref (a 14)), (9, .int (nI p9 - nI p9 / 9 * 9)), (10, .int (nI p9 / 9))]) hx hb dX10_findHeights_215 hl (k := 5) rfl (nI_1 _) (by decide) rfl (fun ls hl => ?_)
                      refine lv_goto (tgt := 71) hx hb dX10_findHeights_218 (by decide) ?_
                      exact ih71 (p9 + 1) true w_12 hlt_p9 hm (hc_v hp_15 hc c_17) hp_14 (lt_dec hlt_p9 hn71) _ _ hP hD hS ls (lv_sub hl [2, 3, 4, 5, 1, 0] rfl)
          refine lv_iload hx hb dX10_findHeights_71 (lv_at hl 5 rfl) ?_
          refine lv_bipush (v := 81) hx hb dX10_findHeights_73 (by decide) ?_
          refine lv_icmp_ge (tgt := 221) hx hb dX10_findHeights_75 (by decide) (fun c_18 => ?_) (fun c_18 => ?_)
          · refine lv_goto (tgt := 60) hx hb dX10_findHeights_221 (by decide) ?_
            exact ih60 v7_71 m0_71 hh (mz hc hn60 (by rw [hm]; rfl)) _ _ hP hD hS ls (lv_sub hl [0, 1, 2, 3, 4] rfl)
          · have hlt_p9 := ctr_lt (N := 81) (by decide) hp9 c_18
            refine lv_iload hx hb dX10_findHeights_78 (lv_at hl 5 rfl) ?_
            refine lv_bipush (v := 9) hx hb dX10_findHeights_80 (by decide) ?_
            refine lv_irem hx hb dX10_findHeights_82 (by decide) ?_
            refine lv_istore (lv' := [(9, .int ((nI p9) - (nI p9) / 9 * 9)), (0, .ref (a 0)), (1, .long x0), (3, .long x1), (5, .ref (a 14)), (7, .int (bI v7_71)), (8, .int (nI p9))]) hx hb dX10_findHeights_83 hl (by decide) rfl (fun ls hl => ?_)
            refine lv_iload hx hb dX10_findHeights_85 (lv_at hl 6 rfl) ?_
            refine lv_bipush (v := 9) hx hb dX10_findHeights_87 (by decide) ?_
            refine lv_idiv hx hb dX10_findHeights_89 (by decide) ?_
            refine lv_istore (lv' := [(10, .int ((nI p9) / 9)), (9, .int ((nI p9) - (nI p9) / 9 * 9)), (0, .ref (a 0)), (1, .long x0), (3, .long x1), (5, .ref (a 14)), (7, .int (bI v7_71)), (8, .int (nI p9))]) hx hb dX10_findHeights_90 hl (by decide) rfl (fun ls hl => ?_)
            refine lv_iload hx hb dX10_findHeights_92 (lv_at hl 1 rfl) ?_
            refine lv_bipush (v := 8) hx hb dX10_findHeights_94 (by decide) ?_
            refine lv_icmp_ge (tgt := 154) hx hb dX10_findHeights_96 (by decide) (fun c_19 => ?_) (fun c_19 => ?_)
            · exact lp154 v7_71 m0_71 hlt_p9 hc hh  _ _ hP hD hS ls (lv_sub hl [2, 3, 4, 5, 6, 7, 1, 0] rfl)
            · refine lv_aload_n hx hb dX10_findHeights_99 rfl (lv_at hl 2 rfl) ?_
              refine lv_lload_n hx hb dX10_findHeights_100 rfl (lv_at hl 4 rfl) ?_
              refine lv_iload hx hb dX10_findHeights_101 (lv_at hl 1 rfl) ?_
              refine lv_iload hx hb dX10_findHeights_103 (lv_at hl 0 rfl) ?_
              refine kR_i (As := [.long x1, .int ((nI p9) - (nI p9) / 9 * 9), .int ((nI p9) / 9)]) (rest := []) (q0 := 0) ⟨hx, hb, hml, hown, hts⟩ (c_X10_goesRight l D cy a _ J I (va_up R 14 m0_71) RJ x1 ((nI p9) - (nI p9) / 9 * 9) ((nI p9) / 9) ) (cwV 3 hts gX10_findHeights_X10_goesRight rfl rfl rfl (by decide +kernel) ⟨Nat.le_of_ble_eq_true rfl, Nat.le_of_ble_eq_true rfl⟩) hK hN hP hD rfl rfl rfl hl.1 rfl (Nat.le_of_ble_eq_true rfl) dX10_findHeights_105 ⟨Nat.le_of_ble_eq_true rfl, Nat.le_of_ble_eq_true rfl⟩ ?_
              refine lv_if_eq (tgt := 154) hx hb dX10_findHeights_108 (by decide) (fun c_20 => ?_) (fun c_20 => ?_)
              · replace c_20 := bI_f c_20
                exact lp154 v7_71 m0_71 hlt_p9 hc hh  _ _ hP hD hS ls (lv_sub hl [2, 3, 4, 5, 6, 7, 1, 0] rfl)
              · replace c_20 := bI_t c_20
                refine lv_aload hx hb dX10_findHeights_111 (lv_at hl 5 rfl) ?_
                refine lv_iload hx hb dX10_findHeights_113 (lv_at hl 7 rfl) ?_
                refine lv_iload hx hb dX10_findHeights_115 (lv_at hl 7 rfl) ?_
                refine lv_iconst (v := 1) hx hb dX10_findHeights_117 (by decide) ?_
                refine lv_iadd hx hb dX10_findHeights_118 ?_
                refine wtop_i (y := nI (p9 + 1)) (nI_1 _) ?_
                refine lv_iload hx hb dX10_findHeights_119 (lv_at hl 1 rfl) ?_
                refine lv_iload hx hb dX10_findHeights_121 (lv_at hl 0 rfl) ?_
                refine lv_iconst (v := 1) hx hb dX10_findHeights_123 (by decide) ?_
                refine lv_isub hx hb dX10_findHeights_124 ?_
                refine kS_i (As := [.int ((nI p9) - (nI p9) / 9 * 9), .int (((nI p9) / 9) - 1)]) (rest := [.int (nI (p9 + 1)), .int (nI p9), .ref (a 14)]) ⟨hx, hb, hml, hown, hts⟩ (c_X10_isDark l ((nI p9) - (nI p9) / 9 * 9) (((nI p9) / 9) - 1)) (va_cwS 2 hts gX10_findHeights_X10_isDark rfl rfl rfl (by decide +kernel) ⟨Nat.le_of_ble_eq_true rfl, Nat.le_of_ble_eq_true rfl⟩) rfl hl.1 rfl (Nat.le_of_ble_eq_true rfl) dX10_findHeights_125 ⟨Nat.le_of_ble_eq_true rfl, Nat.le_of_ble_eq_true rfl⟩ ?_
                refine lv_if_eq (tgt := 135) hx hb dX10_findHeights_128 (by decide) (fun c_21 => ?_) (fun c_21 => ?_)
                · replace c_21 := bI_f c_21
                  refine lv_iconst (v := (-1)) hx hb dX10_findHeights_135 (by decide) ?_
                  refine kW_i (As := [.ref (a 14), .int (nI p9), .int (nI (p9 + 1)), .int (-1)]) (rest := []) ⟨hx, hb, hml, hown, hts⟩ (t_X10_spread14 l D cy a _ J I (va_up R 14 m0_71) RJ p9 (p9 + 1) (-1) hlt_p9 (hx_1 ⟨p9, hlt_p9⟩ c_19) (Or.inr rfl) hh ) (va_cwS 4 hts gX10_findHeights_X10_spread rfl rfl rfl (by decide +kernel) ⟨Nat.le_of_ble_eq_true rfl, Nat.le_of_ble_eq_true rfl⟩) hK hN hP hD hS hA rfl hl.1 rfl (Nat.le_of_ble_eq_true rfl) dX10_findHeights_136 ⟨Nat.le_of_ble_eq_true rfl, Nat.le_of_ble_eq_true rfl⟩ (fun r_22 u H locs hw hP hD hS => ?_)
                  obtain ⟨w_23, zb_24, ⟨rfl, hp_25, hp_26⟩, rfl⟩ := hw
                  have hP : va_P D vwCl (MW cy a J I (va_up R 14 w_23) RJ) H := hP
                  have hD : va_D A (MW cy a J I (va_up R 14 w_23) RJ) := hD
                  refine lv_if_ne (tgt := 147) hx hb dX10_findHeights_139 (by decide) (fun c_27 => ?_) (fun c_27 => ?_)
                  · replace c_27 := bI_t c_27
                    refine lv_iconst (v := 1) hx hb dX10_findHeights_147 (by decide) ?_
                    refine lv_goto (tgt := 152) hx hb dX10_findHeights_148 (by decide) ?_
                    refine lv_istore (lv' := [(7, .int 1), (10, .int ((nI p9) / 9)), (9, .int ((nI p9) - (nI p9) / 9 * 9)), (0, .ref (a 0)), (1, .long x0), (3, .long x1), (5, .ref (a 14)), (8, .int (nI p9))]) hx hb dX10_findHeights_152 hl (by decide) rfl (fun ls hl => ?_)
                    exact lp154 true w_23 hlt_p9 (hc_t hp_26 hc c_27) hp_25  _ _ hP hD hS ls (lv_sub hl [3, 4, 5, 6, 0, 7, 2, 1] rfl)
                  · replace c_27 := bI_f c_27
                    refine lv_iload hx hb dX10_findHeights_142 (lv_at hl 6 rfl) ?_
                    refine lv_if_eq (tgt := 151) hx hb dX10_findHeights_144 (by decide) (fun c_28 => ?_) (fun c_28 => ?_)
                    · replace c_28 := bI_f c_28
                      refine lv_iconst (v := 0) hx hb dX10_findHeights_151 (by decide) ?_
                      refine lv_istore (lv' := [(7, .int 0), (10, .int ((nI p9) / 9)), (9, .int ((nI p9) - (nI p9) / 9 * 9)), (0, .ref (a 0)), (1, .long x0), (3, .long x1), (5, .ref (a 14)), (8, .int (nI p9))]) hx hb dX10_findHeights_152 hl (by decide) rfl (fun ls hl => ?_)
                      exact lp154 false w_23 hlt_p9 (hc_v hp_26 hc c_28) hp_25  _ _ hP hD hS ls (lv_sub hl [3, 4, 5, 6, 0, 7, 2, 1] rfl)
                    · replace c_28 := bI_t c_28
                      refine lv_iconst (v := 1) hx hb dX10_findHeights_147 (by decide) ?_
                      refine lv_goto (tgt := 152) hx hb dX10_findHeights_148 (by decide) ?_
                      refine lv_istore (lv' := [(7, .int 1), (10, .int ((nI p9) / 9)), (9, .int ((nI p9) - (nI p9) / 9 * 9)), (0, .ref (a 0)), (1, .long x0), (3, .long x1), (5, .ref (a 14)), (8, .int (nI p9))]) hx hb dX10_findHeights_152 hl (by decide) rfl (fun ls hl => ?_)
                      exact lp154 true w_23 hlt_p9 (hc_v hp_26 hc c_28) hp_25  _ _ hP hD hS ls (lv_sub hl [3, 4, 5, 6, 0, 7, 2, 1] rfl)
                · replace c_21 := bI_t c_21
                  refine lv_iconst (v := 1) hx hb dX10_findHeights_131 (by decide) ?_
                  refine lv_goto (tgt := 136) hx hb dX10_findHeights_132 (by decide) ?_
                  refine kW_i (As := [.ref (a 14), .int (nI p9), .int (nI (p9 + 1)), .int 1]) (rest := []) ⟨hx, hb, hml, hown, hts⟩ (t_X10_spread14 l D cy a _ J I (va_up R 14 m0_71) RJ p9 (p9 + 1) 1 hlt_p9 (hx_1 ⟨p9, hlt_p9⟩ c_19) (Or.inl rfl) hh ) (va_cwS 4 hts gX10_findHeights_X10_spread rfl rfl rfl (by decide +kernel) ⟨Nat.le_of_ble_eq_true rfl, Nat.le_of_ble_eq_true rfl⟩) hK hN hP hD hS hA rfl hl.1 rfl (Nat.le_of_ble_eq_true rfl) dX10_findHeights_136 ⟨Nat.le_of_ble_eq_true rfl, Nat.le_of_ble_eq_true rfl⟩ (fun r_29 u H locs hw hP hD hS => ?_)
                  obtain ⟨w_30, zb_31, ⟨rfl, hp_32, hp_33⟩, rfl⟩ := hw
                  have hP : va_P D vwCl (MW cy a J I (va_up R 14 w_30) RJ) H := hP
                  have hD : va_D A (MW cy a J I (va_up R 14 w_30) RJ) := hD
                  refine lv_if_ne (tgt := 147) hx hb dX10_findHeights_139 (by decide) (fun c_34 => ?_) (fun c_34 => ?_)
                  · replace c_34 := bI_t c_34
                    refine lv_iconst (v := 1) hx hb dX10_findHeights_147 (by decide) ?_
                    refine lv_goto (tgt := 152) hx hb dX10_findHeights_148 (by decide) ?_
                    refine lv_istore (lv' := [(7, .int 1), (10, .int ((nI p9) / 9)), (9, .int ((nI p9) - (nI p9) / 9 * 9)), (0, .ref (a 0)), (1, .long x0), (3, .long x1), (5, .ref (a 14)), (8, .int (nI p9))]) hx hb dX10_findHeights_152 hl (by decide) rfl (fun ls hl => ?_)
                    exact lp154 true w_30 hlt_p9 (hc_t hp_33 hc c_34) hp_32  _ _ hP hD hS ls (lv_sub hl [3, 4, 5, 6, 0, 7, 2, 1] rfl)
                  · replace c_34 := bI_f c_34
                    refine lv_iload hx hb dX10_findHeights_142 (lv_at hl 6 rfl) ?_
                    refine lv_if_eq (tgt := 151) hx hb dX10_findHeights_144 (by decide) (fun c_35 => ?_) (fun c_35 => ?_)
                    · replace c_35 := bI_f c_35
                      refine lv_iconst (v := 0) hx hb dX10_findHeights_151 (by decide) ?_
                      refine lv_istore (lv' := [(7, .int 0), (10, .int ((nI p9) / 9)), (9, .int ((nI p9) - (nI p9) / 9 * 9)), (0, .ref (a 0)), (1, .long x0), (3, .long x1), (5, .ref (a 14)), (8, .int (nI p9))]) hx hb dX10_findHeights_152 hl (by decide) rfl (fun ls hl => ?_)
                      exact lp154 false w_30 hlt_p9 (hc_v hp_33 hc c_35) hp_32  _ _ hP hD hS ls (lv_sub hl [3, 4, 5, 6, 0, 7, 2, 1] rfl)
                    · replace c_35 := bI_t c_35
                      refine lv_iconst (v := 1) hx hb dX10_findHeights_147 (by decide) ?_
                      refine lv_goto (tgt := 152) hx hb dX10_findHeights_148 (by decide) ?_
                      refine lv_istore (lv' := [(7, .int 1), (10, .int ((nI p9) / 9)), (9, .int ((nI p9) - (nI p9) / 9 * 9)), (0, .ref (a 0)), (1, .long x0), (3, .long x1), (5, .ref (a 14)), (8, .int (nI p9))]) hx hb dX10_findHeights_152 hl (by decide) rfl (fun ls hl => ?_)
                      exact lp154 true w_30 hlt_p9 (hc_v hp_33 hc c_35) hp_32  _ _ hP hD hS ls (lv_sub hl [3, 4, 5, 6, 0, 7, 2, 1] rfl)
      refine lv_iload hx hb dX10_findHeights_60 (lv_at hl 4 rfl) ?_
      refine lv_if_eq (tgt := 224) hx hb dX10_findHeights_62 (by decide) (fun c_36 => ?_) (fun c_36 => ?_)
      · replace c_36 := bI_f c_36
        exact wret_v hx hb hr hlocks (J, I, (va_up R 14 m0_60), RJ) ⟨m0_60, trivial, rfl⟩ hP hD hS dX10_findHeights_224
      · replace c_36 := bI_t c_36
        refine lv_iconst (v := 0) hx hb dX10_findHeights_65 (by decide) ?_
        refine lv_istore (lv' := [(7, .int 0), (0, .ref (a 0)), (1, .long x0), (3, .long x1), (5, .ref (a 14))]) hx hb dX10_findHeights_66 hl (by decide) rfl (fun ls hl => ?_)
        refine lv_iconst (v := 0) hx hb dX10_findHeights_68 (by decide) ?_
        refine lv_istore (lv' := [(8, .int 0), (7, .int 0), (0, .ref (a 0)), (1, .long x0), (3, .long x1), (5, .ref (a 14))]) hx hb dX10_findHeights_69 hl (by decide) rfl (fun ls hl => ?_)
        exact lp71 _ 0 false m0_60 (Nat.zero_le _) c_36 (spr_0 hh).2 hh (Nat.lt_succ_self _) _ _ hP hD hS ls (lv_sub hl [2, 3, 4, 5, 1, 0] rfl)
  have lp7 : ∀ (n7 : Nat), ∀ (i : Nat) (v6_7 : Int32) (m0_7 : Nat → Int32), (i ≤ 81) → (fOk (J 0) i v6_7) → (aF m0_7 i) → (81 - i) < n7 → ∀ (H : Heap) (locs : List Loc), va_P D vwCl (MW cy a J I (va_up R 14 m0_7) RJ) H → va_D A (MW cy a J I (va_up R 14 m0_7) RJ) → va_S A s.heap H locs → ∀ (ls : Array Slot), lv_has ls 11 [(0, .ref (a 0)), (1, .long x0), (3, .long x1), (5, .ref (a 14)), (6, .int v6_7), (7, .int (nI (81 - i) - 1))] → W p l e (headSpec wsX10_findHeights ({ frames := 3, cells := 0, slots := 0, locals := 69 })).room s m ([.ref (a 0), .long x0, .long x1, .ref (a 14)] : List Value).toArray below meth c H locs 0 0 (MQ below (va_Qv (fun (u : MS) => ∃ (w0 : Nat → Int32), (True) ∧ u = (J, I, (va_up R 14 w0), RJ)) (BW D A (MWu cy a)) A) ([.ref (a 0), .long x0, .long x1, .ref (a 14)] : List Value).toArray s 0 0 A) (F0 m 7 ls []) := by
    intro n7
    induction n7 with
    | zero => intro i v6_7 m0_7 hi hf ha hn; exact absurd hn (Nat.not_lt_zero _)
    | succ n7 ih7 =>
      intro i v6_7 m0_7 hi hf ha hn7 H locs hP hD hS ls hl
      refine lv_iload hx hb dX10_findHeights_7 (lv_at hl 5 rfl) ?_
      refine lv_if_lt (tgt := 51) hx hb dX10_findHeights_9 (by decide) (fun c_37 => ?_) (fun c_37 => ?_)
      · have hie := gw_ge (N := 81) (by decide) hi c_37
        refine lv_aload hx hb dX10_findHeights_51 (lv_at hl 3 rfl) ?_
        refine lv_iload hx hb dX10_findHeights_53 (lv_at hl 4 rfl) ?_
        refine lv_iconst (v := 0) hx hb dX10_findHeights_55 (by decide) ?_
        refine va_iast hx hb hK hP hD hS 14 0 rfl rfl (fOk_end hie hf hfl) dX10_findHeights_56 (fun H locs hP hD hS => ?_)
        have hP : va_P D vwCl (MW cy a J I (va_up R 14 (upd m0_7 v6_7.toNatClampNeg 0)) RJ) H := hP
        have hD : va_D A (MW cy a J I (va_up R 14 (upd m0_7 v6_7.toNatClampNeg 0)) RJ) := hD
        refine lv_iconst (v := 1) hx hb dX10_findHeights_57 (by decide) ?_
        refine lv_istore (lv' := [(7, .int 1), (0, .ref (a 0)), (1, .long x0), (3, .long x1), (5, .ref (a 14)), (6, .int v6_7)]) hx hb dX10_findHeights_58 hl (by decide) rfl (fun ls hl => ?_)
        exact lp60 _ true (upd m0_7 v6_7.toNatClampNeg 0) (hB_1 hie ha (fOk_end hie hf hfl)) (Nat.lt_succ_self _) _ _ hP hD hS ls (lv_sub hl [1, 2, 3, 4, 0] rfl)
      · obtain ⟨j, hj, he⟩ := gw_lt (N := 81) (by decide) hi c_37
        rw [he] at hl
        refine lv_aload hx hb dX10_findHeights_12 (lv_at hl 3 rfl) ?_
        refine lv_iload hx hb dX10_findHeights_14 (lv_at hl 5 rfl) ?_
        refine lv_ldc (v := 1000000) hx hb hown hw0 dX10_findHeights_16 ?_
        refine va_iast hx hb hK hP hD hS 14 0 rfl rfl (vp_in_nI (by omega) (by decide)) dX10_findHeights_18 (fun H locs hP hD hS => ?_)
        have hP : va_P D vwCl (MW cy a J I (va_up R 14 (upd m0_7 (nI j).toNatClampNeg 1000000)) RJ) H := hP
        have hD : va_D A (MW cy a J I (va_up R 14 (upd m0_7 (nI j).toNatClampNeg 1000000)) RJ) := hD
        refine lv_aload_n hx hb dX10_findHeights_19 rfl (lv_at hl 0 rfl) ?_
        refine lv_iload hx hb dX10_findHeights_20 (lv_at hl 5 rfl) ?_
        refine lv_bipush (v := 9) hx hb dX10_findHeights_22 (by decide) ?_
        refine lv_irem hx hb dX10_findHeights_24 (by decide) ?_
        refine lv_iload hx hb dX10_findHeights_25 (lv_at hl 5 rfl) ?_
        refine lv_bipush (v := 9) hx hb dX10_findHeights_27 (by decide) ?_
        refine lv_idiv hx hb dX10_findHeights_29 (by decide) ?_
        refine kR_i (As := [.int ((nI j) - (nI j) / 9 * 9), .int ((nI j) / 9)]) (rest := []) (q0 := 0) ⟨hx, hb, hml, hown, hts⟩ (c_X10_isPoint l D cy a _ J I (va_up R 14 (upd m0_7 (nI j).toNatClampNeg 1000000)) RJ ((nI j) - (nI j) / 9 * 9) ((nI j) / 9) ) (cwV 2 hts gX10_findHeights_X10_isPoint rfl rfl rfl (by decide +kernel) ⟨Nat.le_of_ble_eq_true rfl, Nat.le_of_ble_eq_true rfl⟩) hK hN hP hD rfl rfl rfl hl.1 rfl (Nat.le_of_ble_eq_true rfl) dX10_findHeights_30 ⟨Nat.le_of_ble_eq_true rfl, Nat.le_of_ble_eq_true rfl⟩ ?_
        refine lv_if_eq (tgt := 41) hx hb dX10_findHeights_33 (by decide) (fun c_38 => ?_) (fun c_38 => ?_)
        · replace c_38 := bI_f c_38
          refine lv_iload hx hb dX10_findHeights_41 (lv_at hl 4 rfl) ?_
          refine lv_istore (lv' := [(6, .int v6_7), (0, .ref (a 0)), (1, .long x0), (3, .long x1), (5, .ref (a 14)), (7, .int (nI j))]) hx hb dX10_findHeights_43 hl (by decide) rfl (fun ls hl => ?_)
          refine lv_iinc (v := nI (81 - (i + 1)) - 1) (lv' := [(7, .int (nI (81 - (i + 1)) - 1)), (6, .int v6_7), (0, .ref (a 0)), (1, .long x0), (3, .long x1), (5, .ref (a 14))]) hx hb dX10_findHeights_45 hl (k := 5) rfl (gw_dec hj) (by decide) rfl (fun ls hl => ?_)
          refine lv_goto (tgt := 7) hx hb dX10_findHeights_48 (by decide) ?_
          exact ih7 (i + 1) v6_7 (upd m0_7 (nI j).toNatClampNeg 1000000) (by omega) (fOk_f hj hf c_38) (aF_s hj ha) (by omega) _ _ hP hD hS ls (lv_sub hl [2, 3, 4, 5, 1, 0] rfl)
        · replace c_38 := bI_t c_38
          refine lv_iload hx hb dX10_findHeights_36 (lv_at hl 5 rfl) ?_
          refine lv_goto (tgt := 43) hx hb dX10_findHeights_38 (by decide) ?_
          refine lv_istore (lv' := [(6, .int (nI j)), (0, .ref (a 0)), (1, .long x0), (3, .long x1), (5, .ref (a 14)), (7, .int (nI j))]) hx hb dX10_findHeights_43 hl (by decide) rfl (fun ls hl => ?_)
          refine lv_iinc (v := nI (81 - (i + 1)) - 1) (lv' := [(7, .int (nI (81 - (i + 1)) - 1)), (6, .int (nI j)), (0, .ref (a 0)), (1, .long x0), (3, .long x1), (5, .ref (a 14))]) hx hb dX10_findHeights_45 hl (k := 5) rfl (gw_dec hj) (by decide) rfl (fun ls hl => ?_)
          refine lv_goto (tgt := 7) hx hb dX10_findHeights_48 (by decide) ?_
          exact ih7 (i + 1) (nI j) (upd m0_7 (nI j).toNatClampNeg 1000000) (by omega) (fOk_t hj) (aF_s hj ha) (by omega) _ _ hP hD hS ls (lv_sub hl [2, 3, 4, 5, 1, 0] rfl)
  refine lv_iconst (v := (-1)) hx hb dX10_findHeights_0 (by decide) ?_
  refine lv_istore (lv' := [(6, .int (-1)), (0, .ref (a 0)), (1, .long x0), (3, .long x1), (5, .ref (a 14))]) hx hb dX10_findHeights_1 hl (by decide) rfl (fun ls hl => ?_)
  refine lv_bipush (v := 80) hx hb dX10_findHeights_3 (by decide) ?_
  refine wtop_i (y := nI (81 - 0) - 1) (by decide) ?_
  refine lv_istore (lv' := [(7, .int (nI (81 - 0) - 1)), (6, .int (-1)), (0, .ref (a 0)), (1, .long x0), (3, .long x1), (5, .ref (a 14))]) hx hb dX10_findHeights_5 hl (by decide) rfl (fun ls hl => ?_)
  exact lp7 _ 0 ((-1) : Int32) (R 14) (by omega) fOk_0 aF_0 (Nat.lt_succ_self _) _ _ hP hD hS ls (lv_sub hl [2, 3, 4, 5, 1, 0] rfl)
