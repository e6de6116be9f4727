theorem dX9_step_113 : decode cX9_step 113 = .ok (.iload 6, 2) := by decide +kernel
theorem dX9_step_115 : decode cX9_step 115 = .ok (.iload_n 3, 1) := by decide +kernel
theorem dX9_step_116 : decode cX9_step 116 = .ok (.if_icmp .ge 53, 3) := by decide +kernel
theorem dX9_step_169 : decode cX9_step 169 = .ok (.iload 5, 2) := by decide +kernel
theorem dX9_step_171 : decode cX9_step 171 = .ok (.ifCond .ge 12, 3) := by decide +kernel
theorem dX9_step_183 : decode cX9_step 183 = .ok (.iload 5, 2) := by decide +kernel
theorem dX9_step_185 : decode cX9_step 185 = .ok (.ireturn, 1) := by decide +kernel
theorem dX9_step_174 : decode cX9_step 174 = .ok (.aload_n 0, 1) := by decide +kernel
theorem dX9_step_175 : decode cX9_step 175 = .ok (.ldc 137, 2) := by decide +kernel
set_option maxRecDepth 20000 in
theorem ggX9_step_X9_finding : GoodIn wsX9_step wsX9_finding := goodIn_r _ [52, 53, 222, 223, 224, 225, 226, 227, 228, 229, 230, 231, 232] rfl (by decide +kernel)
set_option maxRecDepth 20000 in
theorem gX9_step_X9_finding : GoodIn wsX9_step (wsV RX9 44 RX9 yX9_finding wsX9_finding) := goodIn_app (goodIn_r _ [49, 50, 51, 11] rfl (by decide +kernel)) ggX9_step_X9_finding
theorem dX9_step_177 : decode cX9_step 177 = .ok (.invokevirtual 44, 3) := by decide +kernel
theorem dX9_step_180 : decode cX9_step 180 = .ok (.goto 5, 3) := by decide +kernel
theorem dX9_step_119 : decode cX9_step 119 = .ok (.iload 5, 2) := by decide +kernel
theorem dX9_step_121 : decode cX9_step 121 = .ok (.ifCond .lt 48, 3) := by decide +kernel
theorem dX9_step_124 : decode cX9_step 124 = .ok (.aload_n 0, 1) := by decide +kernel
theorem dX9_step_125 : decode cX9_step 125 = .ok (.getfield 31, 3) := by decide +kernel
theorem dX9_step_128 : decode cX9_step 128 = .ok (.iload 5, 2) := by decide +kernel
theorem dX9_step_130 : decode cX9_step 130 = .ok (.aload_n 0, 1) := by decide +kernel
theorem dX9_step_131 : decode cX9_step 131 = .ok (.getfield 24, 3) := by decide +kernel
theorem dX9_step_134 : decode cX9_step 134 = .ok (.getfield 230, 3) := by decide +kernel
set_option maxRecDepth 20000 in
theorem ggX9_step_X8_flipAlso : GoodIn wsX9_step wsX8_flipAlso := goodIn_r _ [217, 211, 212, 140, 213, 153, 154, 155, 198, 199, 200, 187, 201, 202, 203, 204, 205, 206, 191, 193, 207, 208, 209, 210, 39, 31, 40, 218, 219, 220, 221, 252, 253] rfl (by decide +kernel)
set_option maxRecDepth 20000 in
theorem gX9_step_X8_flipAlso : GoodIn wsX9_step (wsV RX9 259 RX8 yX8_flipAlso wsX8_flipAlso) := goodIn_app (goodIn_r _ [214, 215, 216, 187] rfl (by decide +kernel)) ggX9_step_X8_flipAlso
theorem dX9_step_137 : decode cX9_step 137 = .ok (.invokevirtual 259, 3) := by decide +kernel
theorem dX9_step_140 : decode cX9_step 140 = .ok (.aload_n 0, 1) := by decide +kernel
theorem dX9_step_141 : decode cX9_step 141 = .ok (.getfield 31, 3) := by decide +kernel
theorem dX9_step_144 : decode cX9_step 144 = .ok (.aload_n 0, 1) := by decide +kernel
theorem dX9_step_145 : decode cX9_step 145 = .ok (.getfield 24, 3) := by decide +kernel
theorem dX9_step_148 : decode cX9_step 148 = .ok (.getfield 230, 3) := by decide +kernel
theorem dX9_step_151 : decode cX9_step 151 = .ok (.aload_n 0, 1) := by decide +kernel
theorem dX9_step_152 : decode cX9_step 152 = .ok (.getfield 24, 3) := by decide +kernel
theorem dX9_step_155 : decode cX9_step 155 = .ok (.getfield 252, 3) := by decide +kernel
set_option maxRecDepth 20000 in
theorem ggX9_step_X8_leastToward : GoodIn wsX9_step wsX8_leastToward := goodIn_r _ [197, 198, 199, 200, 187, 201, 202, 203, 204, 205, 206, 191, 193, 207, 208, 209, 210, 39, 31, 40, 211, 212, 140, 213, 153, 154, 155, 252, 253] rfl (by decide +kernel)
set_option maxRecDepth 20000 in
theorem gX9_step_X8_leastToward : GoodIn wsX9_step (wsV RX9 255 RX8 yX8_leastToward wsX8_leastToward) := goodIn_app (goodIn_r _ [194, 195, 196, 187] rfl (by decide +kernel)) ggX9_step_X8_leastToward
theorem dX9_step_158 : decode cX9_step 158 = .ok (.invokevirtual 255, 3) := by decide +kernel
theorem dX9_step_161 : decode cX9_step 161 = .ok (.istore 5, 2) := by decide +kernel
theorem dX9_step_163 : decode cX9_step 163 = .ok (.iinc 6 1, 3) := by decide +kernel
theorem dX9_step_166 : decode cX9_step 166 = .ok (.goto (-53), 3) := by decide +kernel
theorem dX9_step_0 : decode cX9_step 0 = .ok (.aload_n 0, 1) := by decide +kernel
set_option maxRecDepth 20000 in
theorem ggX9_step_X9_isWhole : GoodIn wsX9_step wsX9_isWhole := goodIn_r _ [12, 13, 14, 15, 16, 11, 17, 18, 19, 20, 21, 22, 23, 24, 25, 26, 27, 28, 29, 30, 31, 32, 33, 34, 35, 36, 37, 38, 39, 40, 41, 42, 43, 44, 45, 46, 47, 48, 222, 223, 224, 225, 226, 227, 228, 229, 230, 231, 232, 238, 239, 240, 241, 242, 243, 244] rfl (by decide +kernel)
set_option maxRecDepth 20000 in
theorem gX9_step_X9_isWhole : GoodIn wsX9_step (wsV RX9 84 RX9 yX9_isWhole wsX9_isWhole) := goodIn_app (goodIn_r _ [8, 9, 10, 11] rfl (by decide +kernel)) ggX9_step_X9_isWhole
theorem dX9_step_1 : decode cX9_step 1 = .ok (.invokevirtual 84, 3) := by decide +kernel
theorem dX9_step_4 : decode cX9_step 4 = .ok (.ifCond .ne 10, 3) := by decide +kernel
theorem dX9_step_14 : decode cX9_step 14 = .ok (.aload_n 0, 1) := by decide +kernel
theorem dX9_step_15 : decode cX9_step 15 = .ok (.iload_n 1, 1) := by decide +kernel
set_option maxRecDepth 20000 in
theorem ggX9_step_X9_isLaying : GoodIn wsX9_step wsX9_isLaying := goodIn_r _ [57, 58, 59, 60, 11, 61, 62, 63, 64, 65, 13, 66, 67, 68, 69, 70, 71, 72, 73, 74, 14, 15, 16, 17, 18, 19, 20, 21, 22, 23, 24, 25, 26, 27, 28, 75, 76, 77, 78, 79, 80, 81, 82, 83, 84, 85, 86, 87, 39, 31, 40, 88, 89, 90, 91, 92, 93, 94, 222, 223, 224, 225, 226, 227, 228, 229, 230, 231, 232, 245, 246, 247, 248, 238, 239, 240, 241, 242, 243, 244] rfl (by decide +kernel)
set_option maxRecDepth 20000 in
theorem gX9_step_X9_isLaying : GoodIn wsX9_step (wsV RX9 189 RX9 yX9_isLaying wsX9_isLaying) := goodIn_app (goodIn_r _ [54, 55, 56, 11] rfl (by decide +kernel)) ggX9_step_X9_isLaying
theorem dX9_step_16 : decode cX9_step 16 = .ok (.invokevirtual 189, 3) := by decide +kernel
theorem dX9_step_19 : decode cX9_step 19 = .ok (.ifCond .eq 11, 3) := by decide +kernel
theorem dX9_step_30 : decode cX9_step 30 = .ok (.aload_n 0, 1) := by decide +kernel
theorem dX9_step_31 : decode cX9_step 31 = .ok (.ldc 43, 2) := by decide +kernel
theorem dX9_step_33 : decode cX9_step 33 = .ok (.invokevirtual 44, 3) := by decide +kernel
theorem dX9_step_36 : decode cX9_step 36 = .ok (.ireturn, 1) := by decide +kernel
theorem dX9_step_22 : decode cX9_step 22 = .ok (.aload_n 0, 1) := by decide +kernel
theorem dX9_step_23 : decode cX9_step 23 = .ok (.iload_n 2, 1) := by decide +kernel
theorem dX9_step_24 : decode cX9_step 24 = .ok (.invokevirtual 189, 3) := by decide +kernel
theorem dX9_step_27 : decode cX9_step 27 = .ok (.ifCond .ne 10, 3) := by decide +kernel
theorem dX9_step_37 : decode cX9_step 37 = .ok (.aload_n 0, 1) := by decide +kernel
theorem dX9_step_38 : decode cX9_step 38 = .ok (.iload_n 1, 1) := by decide +kernel
set_option maxRecDepth 20000 in
theorem ggX9_step_X9_layingOf : GoodIn wsX9_step wsX9_layingOf := goodIn_r _ [98, 99, 100, 101, 58, 59, 60, 11, 61, 62, 63, 64, 65, 13, 66, 67, 68, 69, 70, 71, 72, 73, 74, 14, 15, 16, 17, 18, 19, 20, 21, 22, 23, 24, 25, 26, 27, 28, 75, 76, 77, 78, 79, 80, 81, 82, 83, 84, 85, 86, 87, 39, 31, 40, 88, 89, 90, 102, 103, 104, 105, 106, 107, 108, 109, 110, 111, 112, 113, 114, 115, 116, 117, 118, 119, 120, 121, 122, 123, 124, 125, 126, 127, 128, 129, 130, 131, 132, 249, 250, 251, 222, 223, 224, 225, 226, 227, 228, 229, 230, 231, 232, 245, 246, 247, 248, 238, 239, 240, 241, 242, 243, 244] rfl (by decide +kernel)
set_option maxRecDepth 20000 in
theorem gX9_step_X9_layingOf : GoodIn wsX9_step (wsV RX9 192 RX9 yX9_layingOf wsX9_layingOf) := goodIn_app (goodIn_r _ [95, 96, 97, 11] rfl (by decide +kernel)) ggX9_step_X9_layingOf
theorem dX9_step_39 : decode cX9_step 39 = .ok (.invokevirtual 192, 3) := by decide +kernel
theorem dX9_step_42 : decode cX9_step 42 = .ok (.astore 4, 2) := by decide +kernel
theorem dX9_step_44 : decode cX9_step 44 = .ok (.aload_n 0, 1) := by decide +kernel
theorem dX9_step_45 : decode cX9_step 45 = .ok (.aload 4, 2) := by decide +kernel
theorem dX9_step_47 : decode cX9_step 47 = .ok (.aload_n 0, 1) := by decide +kernel
theorem dX9_step_48 : decode cX9_step 48 = .ok (.iload_n 2, 1) := by decide +kernel
theorem dX9_step_49 : decode cX9_step 49 = .ok (.invokevirtual 192, 3) := by decide +kernel
set_option maxRecDepth 20000 in
theorem ggX9_step_X9_measureBoth : GoodIn wsX9_step wsX9_measureBoth := goodIn_r _ [136, 3, 13, 6, 7, 137, 138, 139, 140, 141, 142, 143, 144, 145, 146, 147, 148, 149, 150, 151, 152, 39, 31, 40, 153, 154, 155, 156, 157, 158, 159, 160, 161, 162, 163, 164, 165, 166, 38, 167, 168, 169, 170, 171, 172, 173, 222, 223, 224, 225, 226, 227, 228, 229, 230, 231, 232, 233, 234, 235, 236, 237, 249, 250, 251] rfl (by decide +kernel)
set_option maxRecDepth 20000 in
theorem gX9_step_X9_measureBoth : GoodIn wsX9_step (wsV RX9 245 RX9 yX9_measureBoth wsX9_measureBoth) := goodIn_app (goodIn_r _ [133, 134, 135, 11] rfl (by decide +kernel)) ggX9_step_X9_measureBoth
theorem dX9_step_52 : decode cX9_step 52 = .ok (.invokevirtual 245, 3) := by decide +kernel
theorem dX9_step_55 : decode cX9_step 55 = .ok (.iload_n 3, 1) := by decide +kernel
theorem dX9_step_56 : decode cX9_step 56 = .ok (.ifCond .lt 14, 3) := by decide +kernel
theorem dX9_step_70 : decode cX9_step 70 = .ok (.aload_n 0, 1) := by decide +kernel
theorem dX9_step_71 : decode cX9_step 71 = .ok (.ldc 137, 2) := by decide +kernel
theorem dX9_step_73 : decode cX9_step 73 = .ok (.invokevirtual 44, 3) := by decide +kernel
theorem dX9_step_76 : decode cX9_step 76 = .ok (.ireturn, 1) := by decide +kernel
theorem dX9_step_59 : decode cX9_step 59 = .ok (.iload_n 3, 1) := by decide +kernel
theorem dX9_step_60 : decode cX9_step 60 = .ok (.aload_n 0, 1) := by decide +kernel
theorem dX9_step_61 : decode cX9_step 61 = .ok (.getfield 24, 3) := by decide +kernel
set_option maxRecDepth 20000 in
theorem ggX9_step_X2_distance : GoodIn wsX9_step wsX2_distance := goodIn_r _ [177, 178, 179, 180, 181, 182, 183, 233, 234, 235, 236, 237] rfl (by decide +kernel)
set_option maxRecDepth 20000 in
theorem gX9_step_X2_distance : GoodIn wsX9_step (wsV RX9 249 RX2 yX2_distance wsX2_distance) := goodIn_app (goodIn_r _ [174, 175, 176, 140] rfl (by decide +kernel)) ggX9_step_X2_distance
theorem dX9_step_64 : decode cX9_step 64 = .ok (.invokevirtual 249, 3) := by decide +kernel
theorem dX9_step_67 : decode cX9_step 67 = .ok (.if_icmp .lt 10, 3) := by decide +kernel
theorem dX9_step_77 : decode cX9_step 77 = .ok (.aload_n 0, 1) := by decide +kernel
theorem dX9_step_78 : decode cX9_step 78 = .ok (.getfield 31, 3) := by decide +kernel
theorem dX9_step_81 : decode cX9_step 81 = .ok (.aload 4, 2) := by decide +kernel
theorem dX9_step_83 : decode cX9_step 83 = .ok (.lconst 0, 1) := by decide +kernel
set_option maxRecDepth 20000 in
theorem ggX9_step_X8_start : GoodIn wsX9_step wsX8_start := goodIn_r _ [188, 189, 190, 191, 192, 193, 249, 250, 251, 252, 253] rfl (by decide +kernel)
set_option maxRecDepth 20000 in
theorem gX9_step_X8_start : GoodIn wsX9_step (wsV RX9 204 RX8 yX8_start wsX8_start) := goodIn_app (goodIn_r _ [184, 185, 186, 187] rfl (by decide +kernel)) ggX9_step_X8_start
theorem dX9_step_84 : decode cX9_step 84 = .ok (.invokevirtual 204, 3) := by decide +kernel
theorem dX9_step_87 : decode cX9_step 87 = .ok (.aload_n 0, 1) := by decide +kernel
theorem dX9_step_88 : decode cX9_step 88 = .ok (.getfield 31, 3) := by decide +kernel
theorem dX9_step_91 : decode cX9_step 91 = .ok (.aload_n 0, 1) := by decide +kernel
theorem dX9_step_92 : decode cX9_step 92 = .ok (.getfield 24, 3) := by decide +kernel
theorem dX9_step_95 : decode cX9_step 95 = .ok (.getfield 230, 3) := by decide +kernel
theorem dX9_step_98 : decode cX9_step 98 = .ok (.aload_n 0, 1) := by decide +kernel
theorem dX9_step_99 : decode cX9_step 99 = .ok (.getfield 24, 3) := by decide +kernel
theorem dX9_step_102 : decode cX9_step 102 = .ok (.getfield 252, 3) := by decide +kernel
theorem dX9_step_105 : decode cX9_step 105 = .ok (.invokevirtual 255, 3) := by decide +kernel
theorem dX9_step_108 : decode cX9_step 108 = .ok (.istore 5, 2) := by decide +kernel
theorem dX9_step_110 : decode cX9_step 110 = .ok (.iconst 0, 1) := by decide +kernel
theorem dX9_step_111 : decode cX9_step 111 = .ok (.istore 6, 2) := by decide +kernel
theorem dX9_step_7 : decode cX9_step 7 = .ok (.aload_n 0, 1) := by decide +kernel
theorem dX9_step_8 : decode cX9_step 8 = .ok (.ldc 128, 2) := by decide +kernel
theorem dX9_step_10 : decode cX9_step 10 = .ok (.invokevirtual 44, 3) := by decide +kernel
theorem dX9_step_13 : decode cX9_step 13 = .ok (.ireturn, 1) := by decide +kernel
set_option maxRecDepth 20000 in
theorem ihX9_step_2 : ∀ w ∈ u_ws RX2 TX2 5, w ∈ wsX9_step := fun _ h => List.mem_cons_of_mem _ (List.mem_append_left _ (List.mem_append_left _ (List.mem_append_left _ (List.mem_append_left _ (List.mem_append_right _ h)))))
set_option maxRecDepth 20000 in
theorem ihX9_step_9 : ∀ w ∈ u_ws RX9 TX9 11, w ∈ wsX9_step := fun _ h => List.mem_cons_of_mem _ (List.mem_append_left _ (List.mem_append_left _ (List.mem_append_left _ (List.mem_append_left _ (List.mem_append_left _ (List.mem_append_right _ h))))))
set_option maxHeartbeats 4000000 in
set_option maxRecDepth 100000 in
theorem t_X9_step (l : Launch) (D : va_G) (cy : Nat → ClassId) (a : Nat → Nat) (sz : Nat) (J : Nat → Int64) (I : Nat → Int32) (O : Nat → Option Nat) (R : Nat → Nat → Int32) (RO : Nat → Nat → Option Nat) (LL : va_W) (Y : va_W) (x0 : Int32) (x1 : Int32) (x2 : Int32) (hQ : ∀ i, i < 81 → vp_in (R 6 i) 81) (hM : CI a Y I O RO) (hL : LOK cy (O 5) LL) : Met l yX9_step wsX9_step ({ frames := 6, cells := 14, slots := 68630, locals := 145 }) (va_Pc [.ref (a 0), .int x0, .int x1, .int x2] (PW D cy sz (CT cy a J I O R RO (LL ++ Y)))) (va_Qi (fun r (u : TS) => ∃ (w0 : Int64), ∃ (w1 : Int64), ∃ (w2 : Int32), ∃ (w3 : Int32), ∃ (w4 : Option Nat), ∃ (w5 : Option Nat), ∃ (w6 : Nat → Int32), ∃ (w7 : Nat → Int32), ∃ (w8 : Nat → Int32), ∃ (LL9 : va_W), ∃ (Y9 : va_W), ((∀ c, c ∈ Y → c ∈ Y9) ∧ LOK cy w4 LL9 ∧ (∀ i, i < 81 → vp_in (w8 i) 81)) ∧ u = ((va_up (va_up J 224 w0) 225 w1), (va_up (va_up I 10 w2) 99 w3), (va_up (va_up O 5 w4) 100 w5), (va_up (va_up (va_up R 4 w6) 5 w7) 6 w8), RO, LL9, Y9)) (BW D (va_A (CT cy a J I O R RO (LL ++ Y)) sz) (CTu cy a)) (va_A (CT cy a J I O R RO (LL ++ Y)) sz)) 14 68630 (va_A (CT cy a J I O R RO (LL ++ Y)) sz) := by
  refine Met.ofW (cc := cX9_step) (maxL := 7) (ret := (some .int)) (by decide) rfl ?_
  intro p e s m args below meth c s₁ B hml hv
  obtain ⟨rfl, rfl, hP, hK, hN, hD0⟩ := hv
  have hx := B.exec
  have hb := B.bytes
  have hr := B.returns
  have hts := atoms_spec (ws := wsX9_step) B.pre
  have hown : s.vm.findClass RX9 = some m.cls := findClass_of_methodNamed B.named
  have hlocks := B.notSynchronized
  have hw0 := hts (.constant RX9 137 (-100006)) (by decide +kernel)
  have hw1 := hts (.fieldLink RX9 31 "ParquetLayer" "turner" "LParquetLayer$Turner;") (by decide +kernel)
  have hw2 := hts (.fieldLink RX9 24 "ParquetLayer" "heights" "LParquetLayer$Heights;") (by decide +kernel)
  have hw3 := hts (.fieldLink RX9 230 "ParquetLayer$Heights" "here" "[I") (by decide +kernel)
  have hw4 := hts (.fieldLink RX9 252 "ParquetLayer$Heights" "there" "[I") (by decide +kernel)
  have hw5 := hts (.constant RX9 43 (-100001)) (by decide +kernel)
  have hw6 := hts (.constant RX9 128 (-100004)) (by decide +kernel)
  have hi2 := ihX9_step_2
  have hi9 := ihX9_step_9
  have hD := hD0.self (sz := s.heap.size)
  generalize hAe : va_A (CT cy a J I O R RO (LL ++ Y)) s.heap.size = A at hD ⊢
  have hA : ∀ q : Nat, s.heap.size ≤ q → A q := fun q h => by rw [← hAe]; exact Or.inr h
  have hS : va_S A s.heap s.heap [] := va_S.rf
  have hl := lv_entry ([.ref (a 0), .int x0, .int x1, .int x2]) (n := 7) (Nat.le_of_ble_eq_true rfl)
  rw [lg_entry_eq]
  generalize (lg_sl ([.ref (a 0), .int x0, .int x1, .int x2]) ++ List.replicate (7 - (lg_sl ([.ref (a 0), .int x0, .int x1, .int x2])).length) Slot.unset).toArray = ls at hl ⊢
  have hl : lv_has ls 7 [(0, .ref (a 0)), (1, .int x0), (2, .int x1), (3, .int x2)] := hl
  have hRO0 := hM.2.2.2.2.2.2.2.2.1
  have hRO1 := hM.2.2.2.2.2.2.2.2.2.1
  have hRO2 := hM.2.2.2.2.2.2.2.2.2.2.1
  have hRO3 := hM.2.2.2.2.2.2.2.2.2.2.2
  have lp113 : ∀ (n113 : Nat), ∀ (k : Nat) (v5_113 : Int32) (m0_113 : Int64) (m1_113 : Int64) (m2_113 : Int32) (m3_113 : Int32) (m4_113 : Option Nat) (m5_113 : Option Nat) (m6_113 : Nat → Int32) (m7_113 : Nat → Int32) (m8_113 : Nat → Int32) (LL_113 : va_W) (Y_113 : va_W), (k ≤ x2.toNatClampNeg) → (∀ c, c ∈ Y → c ∈ Y_113) → (LOK cy m4_113 LL_113) → (lt55 v5_113) → (∀ i, i < 81 → vp_in (m8_113 i) 81) → (x2.toNatClampNeg - k) < n113 → ∀ (H : Heap) (locs : List Loc), va_P D vwCl (CT cy a (va_up (va_up J 224 m0_113) 225 m1_113) (va_up (va_up I 10 m2_113) 99 m3_113) (va_up (va_up O 5 m4_113) 100 m5_113) (va_up (va_up (va_up R 4 m6_113) 5 m7_113) 6 m8_113) RO (LL_113 ++ Y_113)) H → va_D A (CT cy a (va_up (va_up J 224 m0_113) 225 m1_113) (va_up (va_up I 10 m2_113) 99 m3_113) (va_up (va_up O 5 m4_113) 100 m5_113) (va_up (va_up (va_up R 4 m6_113) 5 m7_113) 6 m8_113) RO (LL_113 ++ Y_113)) → va_S A s.heap H locs → ∀ (ls : Array Slot), lv_has ls 7 [(0, .ref (a 0)), (3, .int x2), (5, .int v5_113), (6, .int (nI k))] → W p l e (headSpec wsX9_step ({ frames := 6, cells := 14, slots := 68630, locals := 145 })).room s m ([.ref (a 0), .int x0, .int x1, .int x2] : List Value).toArray below meth c H locs 14 68630 (MQ below (va_Qi (fun r (u : TS) => ∃ (w0 : Int64), ∃ (w1 : Int64), ∃ (w2 : Int32), ∃ (w3 : Int32), ∃ (w4 : Option Nat), ∃ (w5 : Option Nat), ∃ (w6 : Nat → Int32), ∃ (w7 : Nat → Int32), ∃ (w8 : Nat → Int32), ∃ (LL9 : va_W), ∃ (Y9 : va_W), ((∀ c, c ∈ Y → c ∈ Y9) ∧ LOK cy w4 LL9 ∧ (∀ i, i < 81 → vp_in (w8 i) 81)) ∧ u = ((va_up (va_up J 224 w0) 225 w1), (va_up (va_up I 10 w2) 99 w3), (va_up (va_up O 5 w4) 100 w5), (va_up (va_up (va_up R 4 w6) 5 w7) 6 w8), RO, LL9, Y9)) (BW D A (CTu cy a)) A) ([.ref (a 0), .int x0, .int x1, .int x2] : List Value).toArray s 14 68630 A) (F0 m 113 ls []) := by
    intro n113
    induction n113 with
    | zero => intro k v5_113 m0_113 m1_113 m2_113 m3_113 m4_113 m5_113 m6_113 m7_113 m8_113 LL_113 Y_113 hk hy_113 hL_113 hlt5 hQ hn; exact absurd hn (Nat.not_lt_zero _)
    | succ n113 ih113 =>
      intro k v5_113 m0_113 m1_113 m2_113 m3_113 m4_113 m5_113 m6_113 m7_113 m8_113 LL_113 Y_113 hk hy_113 hL_113 hlt5 hQ hn113 H locs hP hD hS ls hl
      refine lv_iload hx hb dX9_step_113 (lv_at hl 3 rfl) ?_
      refine lv_iload_n hx hb dX9_step_115 rfl (lv_at hl 1 rfl) ?_
      refine lv_icmp_ge (tgt := 169) hx hb dX9_step_116 (by decide) (fun c_1 => ?_) (fun c_1 => ?_)
      · refine lv_iload hx hb dX9_step_169 (lv_at hl 2 rfl) ?_
        refine lv_if_ge (tgt := 183) hx hb dX9_step_171 (by decide) (fun c_2 => ?_) (fun c_2 => ?_)
        · refine lv_iload hx hb dX9_step_183 (lv_at hl 2 rfl) ?_
          exact wret_i hx hb hr hlocks ((va_up (va_up J 224 m0_113) 225 m1_113), (va_up (va_up I 10 m2_113) 99 m3_113), (va_up (va_up O 5 m4_113) 100 m5_113), (va_up (va_up (va_up R 4 m6_113) 5 m7_113) 6 m8_113), RO, LL_113, Y_113) ⟨m0_113, m1_113, m2_113, m3_113, m4_113, m5_113, m6_113, m7_113, m8_113, LL_113, Y_113, ⟨hy_113, hL_113, hQ⟩, rfl⟩ hP hD hS dX9_step_185
        · refine lv_aload_n hx hb dX9_step_174 rfl (lv_at hl 0 rfl) ?_
          refine lv_ldc (v := (-100006)) hx hb hown hw0 dX9_step_175 ?_
          refine kM_i (As := [.int (-100006)]) (rest := []) (q0 := 0) ⟨hx, hb, hml, hown, hts⟩ (t_X9_finding l D cy a _ (va_up (va_up J 224 m0_113) 225 m1_113) (va_up (va_up I 10 m2_113) 99 m3_113) (va_up (va_up O 5 m4_113) 100 m5_113) (va_up (va_up (va_up R 4 m6_113) 5 m7_113) 6 m8_113) RO LL_113 Y_113 ((-100006) : Int32)   ) (cwV 1 hts gX9_step_X9_finding rfl rfl rfl (by decide +kernel) ⟨Nat.le_of_ble_eq_true rfl, Nat.le_of_ble_eq_true rfl⟩) hK hN hP hD hS hA rfl rfl rfl hl.1 rfl (Nat.le_of_ble_eq_true rfl) dX9_step_177 ⟨Nat.le_of_ble_eq_true rfl, Nat.le_of_ble_eq_true rfl⟩ (fun r_3 u H locs hw hP hD hS => ?_)
          obtain ⟨w_4, rfl, rfl⟩ := hw
          have hP : va_P D vwCl (CT cy a (va_up (va_up J 224 m0_113) 225 m1_113) (va_up (va_up I 10 w_4) 99 m3_113) (va_up (va_up O 5 m4_113) 100 m5_113) (va_up (va_up (va_up R 4 m6_113) 5 m7_113) 6 m8_113) RO (LL_113 ++ Y_113)) H := hP
          have hD : va_D A (CT cy a (va_up (va_up J 224 m0_113) 225 m1_113) (va_up (va_up I 10 w_4) 99 m3_113) (va_up (va_up O 5 m4_113) 100 m5_113) (va_up (va_up (va_up R 4 m6_113) 5 m7_113) 6 m8_113) RO (LL_113 ++ Y_113)) := hD
          refine lv_goto (tgt := 185) hx hb dX9_step_180 (by decide) ?_
          exact wret_i hx hb hr hlocks ((va_up (va_up J 224 m0_113) 225 m1_113), (va_up (va_up I 10 w_4) 99 m3_113), (va_up (va_up O 5 m4_113) 100 m5_113), (va_up (va_up (va_up R 4 m6_113) 5 m7_113) 6 m8_113), RO, LL_113, Y_113) ⟨m0_113, m1_113, w_4, m3_113, m4_113, m5_113, m6_113, m7_113, m8_113, LL_113, Y_113, ⟨hy_113, hL_113, hQ⟩, rfl⟩ hP hD hS dX9_step_185
      · have hlt_k := cl_lt hk c_1
        refine lv_iload hx hb dX9_step_119 (lv_at hl 2 rfl) ?_
        refine lv_if_lt (tgt := 169) hx hb dX9_step_121 (by decide) (fun c_5 => ?_) (fun c_5 => ?_)
        · refine lv_iload hx hb dX9_step_169 (lv_at hl 2 rfl) ?_
          refine lv_if_ge (tgt := 183) hx hb dX9_step_171 (by decide) (fun c_6 => ?_) (fun c_6 => ?_)
          · refine lv_iload hx hb dX9_step_183 (lv_at hl 2 rfl) ?_
            exact wret_i hx hb hr hlocks ((va_up (va_up J 224 m0_113) 225 m1_113), (va_up (va_up I 10 m2_113) 99 m3_113), (va_up (va_up O 5 m4_113) 100 m5_113), (va_up (va_up (va_up R 4 m6_113) 5 m7_113) 6 m8_113), RO, LL_113, Y_113) ⟨m0_113, m1_113, m2_113, m3_113, m4_113, m5_113, m6_113, m7_113, m8_113, LL_113, Y_113, ⟨hy_113, hL_113, hQ⟩, rfl⟩ hP hD hS dX9_step_185
          · refine lv_aload_n hx hb dX9_step_174 rfl (lv_at hl 0 rfl) ?_
            refine lv_ldc (v := (-100006)) hx hb hown hw0 dX9_step_175 ?_
            refine kM_i (As := [.int (-100006)]) (rest := []) (q0 := 0) ⟨hx, hb, hml, hown, hts⟩ (t_X9_finding l D cy a _ (va_up (va_up J 224 m0_113) 225 m1_113) (va_up (va_up I 10 m2_113) 99 m3_113) (va_up (va_up O 5 m4_113) 100 m5_113) (va_up (va_up (va_up R 4 m6_113) 5 m7_113) 6 m8_113) RO LL_113 Y_113 ((-100006) : Int32)   ) (cwV 1 hts gX9_step_X9_finding rfl rfl rfl (by decide +kernel) ⟨Nat.le_of_ble_eq_true rfl, Nat.le_of_ble_eq_true rfl⟩) hK hN hP hD hS hA rfl rfl rfl hl.1 rfl (Nat.le_of_ble_eq_true rfl) dX9_step_177 ⟨Nat.le_of_ble_eq_true rfl, Nat.le_of_ble_eq_true rfl⟩ (fun r_7 u H locs hw hP hD hS => ?_)
            obtain ⟨w_8, rfl, rfl⟩ := hw
            have hP : va_P D vwCl (CT cy a (va_up (va_up J 224 m0_113) 225 m1_113) (va_up (va_up I 10 w_8) 99 m3_113) (va_up (va_up O 5 m4_113) 100 m5_113) (va_up (va_up (va_up R 4 m6_113) 5 m7_113) 6 m8_113) RO (LL_113 ++ Y_113)) H := hP
            have hD : va_D A (CT cy a (va_up (va_up J 224 m0_113) 225 m1_113) (va_up (va_up I 10 w_8) 99 m3_113) (va_up (va_up O 5 m4_113) 100 m5_113) (va_up (va_up (va_up R 4 m6_113) 5 m7_113) 6 m8_113) RO (LL_113 ++ Y_113)) := hD
            refine lv_goto (tgt := 185) hx hb dX9_step_180 (by decide) ?_
            exact wret_i hx hb hr hlocks ((va_up (va_up J 224 m0_113) 225 m1_113), (va_up (va_up I 10 w_8) 99 m3_113), (va_up (va_up O 5 m4_113) 100 m5_113), (va_up (va_up (va_up R 4 m6_113) 5 m7_113) 6 m8_113), RO, LL_113, Y_113) ⟨m0_113, m1_113, w_8, m3_113, m4_113, m5_113, m6_113, m7_113, m8_113, LL_113, Y_113, ⟨hy_113, hL_113, hQ⟩, rfl⟩ hP hD hS dX9_step_185
        · refine lv_aload_n hx hb dX9_step_124 rfl (lv_at hl 0 rfl) ?_
          refine va_get (D := D) (ci := 8) (v := .ref (a 7)) (C := RX9) (T := TX9) (N := 11) hx hb hts hi9 hown hK hP 0 rfl rfl 3 (by decide) hw1 (fun _ h9 => h9) rfl dX9_step_125 ?_
          refine lv_iload hx hb dX9_step_128 (lv_at hl 2 rfl) ?_
          refine lv_aload_n hx hb dX9_step_130 rfl (lv_at hl 0 rfl) ?_
          refine va_get (D := D) (ci := 8) (v := .ref (a 3)) (C := RX9) (T := TX9) (N := 11) hx hb hts hi9 hown hK hP 0 rfl rfl 2 (by decide) hw2 (fun _ h9 => h9) rfl dX9_step_131 ?_
          refine va_get (D := D) (ci := 1) (v := .ref (a 4)) (C := RX2) (T := TX2) (N := 5) hx hb hts hi2 hown hK hP 3 rfl rfl 0 (by decide) hw3 (fun _ h9 => h9) rfl dX9_step_134 ?_
          refine kM_v (As := [.int v5_113, .ref (a 4)]) (rest := []) (q0 := 7) ⟨hx, hb, hml, hown, hts⟩ (t_X8_flipAlso l D cy a _ (va_up (va_up J 224 m0_113) 225 m1_113) (va_up (va_up I 10 m2_113) 99 m3_113) (va_up (va_up O 5 m4_113) 100 m5_113) (va_up (va_up (va_up R 4 m6_113) 5 m7_113) 6 m8_113) RO LL_113 Y_113 v5_113 (lt55_p hlt5 c_5)  ) (cwV 2 hts gX9_step_X8_flipAlso rfl rfl rfl (by decide +kernel) ⟨Nat.le_of_ble_eq_true rfl, Nat.le_of_ble_eq_true rfl⟩) hK hN hP hD hS hA rfl rfl rfl hl.1 rfl (Nat.le_of_ble_eq_true rfl) dX9_step_137 ⟨Nat.le_of_ble_eq_true rfl, Nat.le_of_ble_eq_true rfl⟩ (fun u H locs hw hP hD hS => ?_)
          obtain ⟨w_10, w_11, w_12, -, rfl⟩ := hw
          have hP : va_P D vwCl (CT cy a (va_up (va_up J 224 w_10) 225 w_11) (va_up (va_up I 10 m2_113) 99 m3_113) (va_up (va_up O 5 m4_113) 100 m5_113) (va_up (va_up (va_up R 4 w_12) 5 m7_113) 6 m8_113) RO (LL_113 ++ Y_113)) H := hP
          have hD : va_D A (CT cy a (va_up (va_up J 224 w_10) 225 w_11) (va_up (va_up I 10 m2_113) 99 m3_113) (va_up (va_up O 5 m4_113) 100 m5_113) (va_up (va_up (va_up R 4 w_12) 5 m7_113) 6 m8_113) RO (LL_113 ++ Y_113)) := hD
          refine lv_aload_n hx hb dX9_step_140 rfl (lv_at hl 0 rfl) ?_
          refine va_get (D := D) (ci := 8) (v := .ref (a 7)) (C := RX9) (T := TX9) (N := 11) hx hb hts hi9 hown hK hP 0 rfl rfl 3 (by decide) hw1 (fun _ h9 => h9) rfl dX9_step_141 ?_
          refine lv_aload_n hx hb dX9_step_144 rfl (lv_at hl 0 rfl) ?_
          refine va_get (D := D) (ci := 8) (v := .ref (a 3)) (C := RX9) (T := TX9) (N := 11) hx hb hts hi9 hown hK hP 0 rfl rfl 2 (by decide) hw2 (fun _ h9 => h9) rfl dX9_step_145 ?_
          refine va_get (D := D) (ci := 1) (v := .ref (a 4)) (C := RX2) (T := TX2) (N := 5) hx hb hts hi2 hown hK hP 3 rfl rfl 0 (by decide) hw3 (fun _ h9 => h9) rfl dX9_step_148 ?_
          refine lv_aload_n hx hb dX9_step_151 rfl (lv_at hl 0 rfl) ?_
          refine va_get (D := D) (ci := 8) (v := .ref (a 3)) (C := RX9) (T := TX9) (N := 11) hx hb hts hi9 hown hK hP 0 rfl rfl 2 (by decide) hw2 (fun _ h9 => h9) rfl dX9_step_152 ?_
          refine va_get (D := D) (ci := 1) (v := .ref (a 5)) (C := RX2) (T := TX2) (N := 5) hx hb hts hi2 hown hK hP 3 rfl rfl 1 (by decide) hw4 (fun _ h9 => h9) rfl dX9_step_155 ?_
          refine kRa_i (As := [.ref (a 4), .ref (a 5)]) (rest := []) (q0 := 7) ⟨hx, hb, hml, hown, hts⟩ (t_X8_leastToward l D cy a _ (va_up (va_up J 224 w_10) 225 w_11) (va_up (va_up I 10 m2_113) 99 m3_113) (va_up (va_up O 5 m4_113) 100 m5_113) (va_up (va_up (va_up R 4 w_12) 5 m7_113) 6 m8_113) RO LL_113 Y_113   ) (cwV 2 hts gX9_step_X8_leastToward rfl rfl rfl (by decide +kernel) ⟨Nat.le_of_ble_eq_true rfl, Nat.le_of_ble_eq_true rfl⟩) hK hN hP hD rfl rfl rfl hl.1 rfl (Nat.le_of_ble_eq_true rfl) dX9_step_158 ⟨Nat.le_of_ble_eq_true rfl, Nat.le_of_ble_eq_true rfl⟩ (fun r_13 hr_14 => ?_)
          refine lv_istore (lv' := [(5, .int r_13), (0, .ref (a 0)), (3, .int x2), (6, .int (nI k))]) hx hb dX9_step_161 hl (by decide) rfl (fun ls hl => ?_)
          refine lv_iinc (v := nI (k + 1)) (lv' := [(6, .int (nI (k + 1))), (5, .int r_13), (0, .ref (a 0)), (3, .int x2)]) hx hb dX9_step_163 hl (k := 3) rfl (nI_1 _) (by decide) rfl (fun ls hl => ?_)
          refine lv_goto (tgt := 113) hx hb dX9_step_166 (by decide) ?_
          exact ih113 (k + 1) r_13 w_10 w_11 m2_113 m3_113 m4_113 m5_113 w_12 m7_113 m8_113 LL_113 Y_113 hlt_k hy_113 hL_113 hr_14 hQ (lt_dec hlt_k hn113) _ _ hP hD hS ls (lv_sub hl [2, 3, 1, 0] rfl)
  have hP : va_P D vwCl (CT cy a (va_up (va_up J 224 (J 224)) 225 (J 225)) (va_up (va_up I 10 (I 10)) 99 (I 99)) (va_up (va_up O 5 (O 5)) 100 (O 100)) (va_up (va_up (va_up R 4 (R 4)) 5 (R 5)) 6 (R 6)) RO (LL ++ Y)) s.heap := hP
  have hD : va_D A (CT cy a (va_up (va_up J 224 (J 224)) 225 (J 225)) (va_up (va_up I 10 (I 10)) 99 (I 99)) (va_up (va_up O 5 (O 5)) 100 (O 100)) (va_up (va_up (va_up R 4 (R 4)) 5 (R 5)) 6 (R 6)) RO (LL ++ Y)) := hD
  refine lv_aload_n hx hb dX9_step_0 rfl (lv_at hl 0 rfl) ?_
  refine kRa_i (As := []) (rest := []) (q0 := 0) ⟨hx, hb, hml, hown, hts⟩ (t_X9_isWhole l D cy a _ (va_up (va_up J 224 (J 224)) 225 (J 225)) (va_up (va_up I 10 (I 10)) 99 (I 99)) (va_up (va_up O 5 (O 5)) 100 (O 100)) (va_up (va_up (va_up R 4 (R 4)) 5 (R 5)) 6 (R 6)) RO LL Y   ⟨hM.1, hM.2.1, hM.2.2.1, hM.2.2.2.1, hM.2.2.2.2.1, hM.2.2.2.2.2.1, hM.2.2.2.2.2.2.1, hM.2.2.2.2.2.2.2.1, hRO0, hRO1, hRO2, hRO3⟩) (cwV 0 hts gX9_step_X9_isWhole rfl rfl rfl (by decide +kernel) ⟨Nat.le_of_ble_eq_true rfl, Nat.le_of_ble_eq_true rfl⟩) hK hN hP hD rfl rfl rfl hl.1 rfl (Nat.le_of_ble_eq_true rfl) dX9_step_1 ⟨Nat.le_of_ble_eq_true rfl, Nat.le_of_ble_eq_true rfl⟩ (fun r_15 hr_16 => ?_)
  obtain ⟨zb_17, rfl⟩ := hr_16
  refine lv_if_ne (tgt := 14) hx hb dX9_step_4 (by decide) (fun c_18 => ?_) (fun c_18 => ?_)
  · replace c_18 := bI_t c_18
    refine lv_aload_n hx hb dX9_step_14 rfl (lv_at hl 0 rfl) ?_
    refine lv_iload_n hx hb dX9_step_15 rfl (lv_at hl 1 rfl) ?_
    refine kM_i (As := [.int x0]) (rest := []) (q0 := 0) ⟨hx, hb, hml, hown, hts⟩ (t_X9_isLaying l D cy a _ (va_up (va_up J 224 (J 224)) 225 (J 225)) (va_up (va_up I 10 (I 10)) 99 (I 99)) (va_up (va_up O 5 (O 5)) 100 (O 100)) (va_up (va_up (va_up R 4 (R 4)) 5 (R 5)) 6 (R 6)) RO LL Y x0  ⟨hM.1, hM.2.1, hM.2.2.1, hM.2.2.2.1, hM.2.2.2.2.1, hM.2.2.2.2.2.1, hM.2.2.2.2.2.2.1, hM.2.2.2.2.2.2.2.1, hRO0, hRO1, hRO2, hRO3⟩ hL) (cwV 1 hts gX9_step_X9_isLaying rfl rfl rfl (by decide +kernel) ⟨Nat.le_of_ble_eq_true rfl, Nat.le_of_ble_eq_true rfl⟩) hK hN hP hD hS hA rfl rfl rfl hl.1 rfl (Nat.le_of_ble_eq_true rfl) dX9_step_16 ⟨Nat.le_of_ble_eq_true rfl, Nat.le_of_ble_eq_true rfl⟩ (fun r_19 u H locs hw hP hD hS => ?_)
    obtain ⟨w_20, zb_21, LL_22, ⟨rfl, hL_23⟩, rfl⟩ := hw
    have hP : va_P D vwCl (CT cy a (va_up (va_up J 224 (J 224)) 225 (J 225)) (va_up (va_up I 10 (I 10)) 99 (I 99)) (va_up (va_up O 5 w_20) 100 (O 100)) (va_up (va_up (va_up R 4 (R 4)) 5 (R 5)) 6 (R 6)) RO (LL_22 ++ Y)) H := hP
    have hD : va_D A (CT cy a (va_up (va_up J 224 (J 224)) 225 (J 225)) (va_up (va_up I 10 (I 10)) 99 (I 99)) (va_up (va_up O 5 w_20) 100 (O 100)) (va_up (va_up (va_up R 4 (R 4)) 5 (R 5)) 6 (R 6)) RO (LL_22 ++ Y)) := hD
    refine lv_if_eq (tgt := 30) hx hb dX9_step_19 (by decide) (fun c_24 => ?_) (fun c_24 => ?_)
    · replace c_24 := bI_f c_24
      refine lv_aload_n hx hb dX9_step_30 rfl (lv_at hl 0 rfl) ?_
      refine lv_ldc (v := (-100001)) hx hb hown hw5 dX9_step_31 ?_
      refine kM_i (As := [.int (-100001)]) (rest := []) (q0 := 0) ⟨hx, hb, hml, hown, hts⟩ (t_X9_finding l D cy a _ (va_up (va_up J 224 (J 224)) 225 (J 225)) (va_up (va_up I 10 (I 10)) 99 (I 99)) (va_up (va_up O 5 w_20) 100 (O 100)) (va_up (va_up (va_up R 4 (R 4)) 5 (R 5)) 6 (R 6)) RO LL_22 Y ((-100001) : Int32)   ) (cwV 1 hts gX9_step_X9_finding rfl rfl rfl (by decide +kernel) ⟨Nat.le_of_ble_eq_true rfl, Nat.le_of_ble_eq_true rfl⟩) hK hN hP hD hS hA rfl rfl rfl hl.1 rfl (Nat.le_of_ble_eq_true rfl) dX9_step_33 ⟨Nat.le_of_ble_eq_true rfl, Nat.le_of_ble_eq_true rfl⟩ (fun r_25 u H locs hw hP hD hS => ?_)
      obtain ⟨w_26, rfl, rfl⟩ := hw
      have hP : va_P D vwCl (CT cy a (va_up (va_up J 224 (J 224)) 225 (J 225)) (va_up (va_up I 10 w_26) 99 (I 99)) (va_up (va_up O 5 w_20) 100 (O 100)) (va_up (va_up (va_up R 4 (R 4)) 5 (R 5)) 6 (R 6)) RO (LL_22 ++ Y)) H := hP
      have hD : va_D A (CT cy a (va_up (va_up J 224 (J 224)) 225 (J 225)) (va_up (va_up I 10 w_26) 99 (I 99)) (va_up (va_up O 5 w_20) 100 (O 100)) (va_up (va_up (va_up R 4 (R 4)) 5 (R 5)) 6 (R 6)) RO (LL_22 ++ Y)) := hD
      refine W.widen (k := 14) (n := 68630) (Nat.le_of_ble_eq_true rfl) (Nat.le_of_ble_eq_true rfl) ?_
      exact wret_i hx hb hr hlocks ((va_up (va_up J 224 (J 224)) 225 (J 225)), (va_up (va_up I 10 w_26) 99 (I 99)), (va_up (va_up O 5 w_20) 100 (O 100)), (va_up (va_up (va_up R 4 (R 4)) 5 (R 5)) 6 (R 6)), RO, LL_22, Y) ⟨(J 224), (J 225), w_26, (I 99), w_20, (O 100), (R 4), (R 5), (R 6), LL_22, Y, ⟨(fun _ h => h), hL_23, hQ⟩, rfl⟩ hP hD hS dX9_step_36
    · replace c_24 := bI_t c_24
      refine lv_aload_n hx hb dX9_step_22 rfl (lv_at hl 0 rfl) ?_
      refine lv_iload_n hx hb dX9_step_23 rfl (lv_at hl 2 rfl) ?_
      refine kM_i (As := [.int x1]) (rest := []) (q0 := 0) ⟨hx, hb, hml, hown, hts⟩ (t_X9_isLaying l D cy a _ (va_up (va_up J 224 (J 224)) 225 (J 225)) (va_up (va_up I 10 (I 10)) 99 (I 99)) (va_up (va_up O 5 w_20) 100 (O 100)) (va_up (va_up (va_up R 4 (R 4)) 5 (R 5)) 6 (R 6)) RO LL_22 Y x1  ⟨hM.1, hM.2.1, hM.2.2.1, hM.2.2.2.1, hM.2.2.2.2.1, hM.2.2.2.2.2.1, hM.2.2.2.2.2.2.1, hM.2.2.2.2.2.2.2.1, hRO0, hRO1, hRO2, hRO3⟩ hL_23) (cwV 1 hts gX9_step_X9_isLaying rfl rfl rfl (by decide +kernel) ⟨Nat.le_of_ble_eq_true rfl, Nat.le_of_ble_eq_true rfl⟩) hK hN hP hD hS hA rfl rfl rfl hl.1 rfl (Nat.le_of_ble_eq_true rfl) dX9_step_24 ⟨Nat.le_of_ble_eq_true rfl, Nat.le_of_ble_eq_true rfl⟩ (fun r_27 u H locs hw hP hD hS => ?_)
      obtain ⟨w_28, zb_29, LL_30, ⟨rfl, hL_31⟩, rfl⟩ := hw
      have hP : va_P D vwCl (CT cy a (va_up (va_up J 224 (J 224)) 225 (J 225)) (va_up (va_up I 10 (I 10)) 99 (I 99)) (va_up (va_up O 5 w_28) 100 (O 100)) (va_up (va_up (va_up R 4 (R 4)) 5 (R 5)) 6 (R 6)) RO (LL_30 ++ Y)) H := hP
      have hD : va_D A (CT cy a (va_up (va_up J 224 (J 224)) 225 (J 225)) (va_up (va_up I 10 (I 10)) 99 (I 99)) (va_up (va_up O 5 w_28) 100 (O 100)) (va_up (va_up (va_up R 4 (R 4)) 5 (R 5)) 6 (R 6)) RO (LL_30 ++ Y)) := hD
      refine lv_if_ne (tgt := 37) hx hb dX9_step_27 (by decide) (fun c_32 => ?_) (fun c_32 => ?_)
      · replace c_32 := bI_t c_32
        refine lv_aload_n hx hb dX9_step_37 rfl (lv_at hl 0 rfl) ?_
        refine lv_iload_n hx hb dX9_step_38 rfl (lv_at hl 1 rfl) ?_
        refine kM_r (As := [.int x0]) (rest := []) (q0 := 0) ⟨hx, hb, hml, hown, hts⟩ (t_X9_layingOf l D cy a _ (va_up (va_up J 224 (J 224)) 225 (J 225)) (va_up (va_up I 10 (I 10)) 99 (I 99)) (va_up (va_up O 5 w_28) 100 (O 100)) (va_up (va_up (va_up R 4 (R 4)) 5 (R 5)) 6 (R 6)) RO LL_30 Y x0  ⟨hM.1, hM.2.1, hM.2.2.1, hM.2.2.2.1, hM.2.2.2.2.1, hM.2.2.2.2.2.1, hM.2.2.2.2.2.2.1, hM.2.2.2.2.2.2.2.1, hRO0, hRO1, hRO2, hRO3⟩ hL_31) (cwV 1 hts gX9_step_X9_layingOf rfl rfl rfl (by decide +kernel) ⟨Nat.le_of_ble_eq_true rfl, Nat.le_of_ble_eq_true rfl⟩) hK hN hP hD hS hA rfl rfl rfl hl.1 rfl (Nat.le_of_ble_eq_true rfl) dX9_step_39 ⟨Nat.le_of_ble_eq_true rfl, Nat.le_of_ble_eq_true rfl⟩ (fun u r_33 H locs hw hP hD hS => ?_)
        obtain ⟨g_34, g_35, g_36, g_37⟩ := u
        have hL_38 : LOK cy g_34 g_35 := hw
        have hs_39 : ∀ c, c ∈ Y → c ∈ (Y ++ [laC r_33 x0 g_36 g_37]) := fun c h => List.mem_append_left _ h
        have hi_40 : chO (Y ++ [laC r_33 x0 g_36 g_37]) (O 7) := chO_mono hs_39 hM.2.1
        have hi_41 : layO (Y ++ [laC r_33 x0 g_36 g_37]) (O 8) := layO_mono hs_39 hM.2.2.1
        have hi_42 : ∀ i, i < 20 → pasO (Y ++ [laC r_33 x0 g_36 g_37]) ((RO 2) i) := pas_mono hs_39 hM.2.2.2.1
        have hmono_43 : ∀ c, c ∈ Y → c ∈ (Y ++ [laC r_33 x0 g_36 g_37]) := fun c h => hs_39 c ((fun _ h => h) c h)
        have hP : va_P D vwCl (CT cy a (va_up (va_up J 224 (J 224)) 225 (J 225)) (va_up (va_up I 10 (I 10)) 99 (I 99)) (va_up (va_up O 5 g_34) 100 (O 100)) (va_up (va_up (va_up R 4 (R 4)) 5 (R 5)) 6 (R 6)) RO (g_35 ++ (Y ++ [laC r_33 x0 g_36 g_37]))) H := hP
        have hD : va_D A (CT cy a (va_up (va_up J 224 (J 224)) 225 (J 225)) (va_up (va_up I 10 (I 10)) 99 (I 99)) (va_up (va_up O 5 g_34) 100 (O 100)) (va_up (va_up (va_up R 4 (R 4)) 5 (R 5)) 6 (R 6)) RO (g_35 ++ (Y ++ [laC r_33 x0 g_36 g_37]))) := hD
        refine lv_astore (lv' := [(4, .ref r_33), (0, .ref (a 0)), (1, .int x0), (2, .int x1), (3, .int x2)]) hx hb dX9_step_42 hl (by decide) rfl (fun ls hl => ?_)
        refine lv_aload_n hx hb dX9_step_44 rfl (lv_at hl 1 rfl) ?_
        refine lv_aload hx hb dX9_step_45 (lv_at hl 0 rfl) ?_
        refine lv_aload_n hx hb dX9_step_47 rfl (lv_at hl 1 rfl) ?_
        refine lv_iload_n hx hb dX9_step_48 rfl (lv_at hl 3 rfl) ?_
        refine kM_r (As := [.int x1]) (rest := [.ref r_33, .ref (a 0)]) (q0 := 0) ⟨hx, hb, hml, hown, hts⟩ (t_X9_layingOf l D cy a _ (va_up (va_up J 224 (J 224)) 225 (J 225)) (va_up (va_up I 10 (I 10)) 99 (I 99)) (va_up (va_up O 5 g_34) 100 (O 100)) (va_up (va_up (va_up R 4 (R 4)) 5 (R 5)) 6 (R 6)) RO g_35 (Y ++ [laC r_33 x0 g_36 g_37]) x1  ⟨hM.1, hi_40, hi_41, hi_42, hM.2.2.2.2.1, hM.2.2.2.2.2.1, hM.2.2.2.2.2.2.1, hM.2.2.2.2.2.2.2.1, hRO0, hRO1, hRO2, hRO3⟩ hL_38) (cwV 1 hts gX9_step_X9_layingOf rfl rfl rfl (by decide +kernel) ⟨Nat.le_of_ble_eq_true rfl, Nat.le_of_ble_eq_true rfl⟩) hK hN hP hD hS hA rfl rfl rfl hl.1 rfl (Nat.le_of_ble_eq_true rfl) dX9_step_49 ⟨Nat.le_of_ble_eq_true rfl, Nat.le_of_ble_eq_true rfl⟩ (fun u r_44 H locs hw hP hD hS => ?_)
        obtain ⟨g_45, g_46, g_47, g_48⟩ := u
        have hL_49 : LOK cy g_45 g_46 := hw
        have hs_50 : ∀ c, c ∈ (Y ++ [laC r_33 x0 g_36 g_37]) → c ∈ ((Y ++ [laC r_33 x0 g_36 g_37]) ++ [laC r_44 x1 g_47 g_48]) := fun c h => List.mem_append_left _ h
        have hi_51 : chO ((Y ++ [laC r_33 x0 g_36 g_37]) ++ [laC r_44 x1 g_47 g_48]) (O 7) := chO_mono hs_50 hi_40
        have hi_52 : layO ((Y ++ [laC r_33 x0 g_36 g_37]) ++ [laC r_44 x1 g_47 g_48]) (O 8) := layO_mono hs_50 hi_41
        have hi_53 : ∀ i, i < 20 → pasO ((Y ++ [laC r_33 x0 g_36 g_37]) ++ [laC r_44 x1 g_47 g_48]) ((RO 2) i) := pas_mono hs_50 hi_42
        have hmono_54 : ∀ c, c ∈ Y → c ∈ ((Y ++ [laC r_33 x0 g_36 g_37]) ++ [laC r_44 x1 g_47 g_48]) := fun c h => hs_50 c (hmono_43 c h)
        have hP : va_P D vwCl (CT cy a (va_up (va_up J 224 (J 224)) 225 (J 225)) (va_up (va_up I 10 (I 10)) 99 (I 99)) (va_up (va_up O 5 g_45) 100 (O 100)) (va_up (va_up (va_up R 4 (R 4)) 5 (R 5)) 6 (R 6)) RO (g_46 ++ ((Y ++ [laC r_33 x0 g_36 g_37]) ++ [laC r_44 x1 g_47 g_48]))) H := hP
        have hD : va_D A (CT cy a (va_up (va_up J 224 (J 224)) 225 (J 225)) (va_up (va_up I 10 (I 10)) 99 (I 99)) (va_up (va_up O 5 g_45) 100 (O 100)) (va_up (va_up (va_up R 4 (R 4)) 5 (R 5)) 6 (R 6)) RO (g_46 ++ ((Y ++ [laC r_33 x0 g_36 g_37]) ++ [laC r_44 x1 g_47 g_48]))) := hD
        refine kM_v (As := [.ref r_33, .ref r_44]) (rest := []) (q0 := 0) ⟨hx, hb, hml, hown, hts⟩ (t_X9_measureBoth l D cy a _ (va_up (va_up J 224 (J 224)) 225 (J 225)) (va_up (va_up I 10 (I 10)) 99 (I 99)) (va_up (va_up O 5 g_45) 100 (O 100)) (va_up (va_up (va_up R 4 (R 4)) 5 (R 5)) 6 (R 6)) RO g_46 ((Y ++ [laC r_33 x0 g_36 g_37]) ++ [laC r_44 x1 g_47 g_48]) r_33 x0 g_36 g_37 (hs_50 _ mem_last) r_44 x1 g_47 g_48 mem_last hQ  ) (cwV 2 hts gX9_step_X9_measureBoth rfl rfl rfl (by decide +kernel) ⟨Nat.le_of_ble_eq_true rfl, Nat.le_of_ble_eq_true rfl⟩) hK hN hP hD hS hA rfl rfl rfl hl.1 rfl (Nat.le_of_ble_eq_true rfl) dX9_step_52 ⟨Nat.le_of_ble_eq_true rfl, Nat.le_of_ble_eq_true rfl⟩ (fun u H locs hw hP hD hS => ?_)
        obtain ⟨w_56, w_57, w_58, w_59, w_60, hp_61, rfl⟩ := hw
        have hP : va_P D vwCl (CT cy a (va_up (va_up J 224 (J 224)) 225 (J 225)) (va_up (va_up I 10 (I 10)) 99 w_56) (va_up (va_up O 5 g_45) 100 w_57) (va_up (va_up (va_up R 4 w_58) 5 w_59) 6 w_60) RO (g_46 ++ ((Y ++ [laC r_33 x0 g_36 g_37]) ++ [laC r_44 x1 g_47 g_48]))) H := hP
        have hD : va_D A (CT cy a (va_up (va_up J 224 (J 224)) 225 (J 225)) (va_up (va_up I 10 (I 10)) 99 w_56) (va_up (va_up O 5 g_45) 100 w_57) (va_up (va_up (va_up R 4 w_58) 5 w_59) 6 w_60) RO (g_46 ++ ((Y ++ [laC r_33 x0 g_36 g_37]) ++ [laC r_44 x1 g_47 g_48]))) := hD
        refine lv_iload_n hx hb dX9_step_55 rfl (lv_at hl 4 rfl) ?_
        refine lv_if_lt (tgt := 70) hx hb dX9_step_56 (by decide) (fun c_62 => ?_) (fun c_62 => ?_)
        · refine lv_aload_n hx hb dX9_step_70 rfl (lv_at hl 1 rfl) ?_
          refine lv_ldc (v := (-100006)) hx hb hown hw0 dX9_step_71 ?_
          refine kM_i (As := [.int (-100006)]) (rest := []) (q0 := 0) ⟨hx, hb, hml, hown, hts⟩ (t_X9_finding l D cy a _ (va_up (va_up J 224 (J 224)) 225 (J 225)) (va_up (va_up I 10 (I 10)) 99 w_56) (va_up (va_up O 5 g_45) 100 w_57) (va_up (va_up (va_up R 4 w_58) 5 w_59) 6 w_60) RO g_46 ((Y ++ [laC r_33 x0 g_36 g_37]) ++ [laC r_44 x1 g_47 g_48]) ((-100006) : Int32)   ) (cwV 1 hts gX9_step_X9_finding rfl rfl rfl (by decide +kernel) ⟨Nat.le_of_ble_eq_true rfl, Nat.le_of_ble_eq_true rfl⟩) hK hN hP hD hS hA rfl rfl rfl hl.1 rfl (Nat.le_of_ble_eq_true rfl) dX9_step_73 ⟨Nat.le_of_ble_eq_true rfl, Nat.le_of_ble_eq_true rfl⟩ (fun r_63 u H locs hw hP hD hS => ?_)
          obtain ⟨w_64, rfl, rfl⟩ := hw
          have hP : va_P D vwCl (CT cy a (va_up (va_up J 224 (J 224)) 225 (J 225)) (va_up (va_up I 10 w_64) 99 w_56) (va_up (va_up O 5 g_45) 100 w_57) (va_up (va_up (va_up R 4 w_58) 5 w_59) 6 w_60) RO (g_46 ++ ((Y ++ [laC r_33 x0 g_36 g_37]) ++ [laC r_44 x1 g_47 g_48]))) H := hP
          have hD : va_D A (CT cy a (va_up (va_up J 224 (J 224)) 225 (J 225)) (va_up (va_up I 10 w_64) 99 w_56) (va_up (va_up O 5 g_45) 100 w_57) (va_up (va_up (va_up R 4 w_58) 5 w_59) 6 w_60) RO (g_46 ++ ((Y ++ [laC r_33 x0 g_36 g_37]) ++ [laC r_44 x1 g_47 g_48]))) := hD
          exact wret_i hx hb hr hlocks ((va_up (va_up J 224 (J 224)) 225 (J 225)), (va_up (va_up I 10 w_64) 99 w_56), (va_up (va_up O 5 g_45) 100 w_57), (va_up (va_up (va_up R 4 w_58) 5 w_59) 6 w_60), RO, g_46, (Y ++ [laC r_33 x0 g_36 g_37]) ++ [laC r_44 x1 g_47 g_48]) ⟨(J 224), (J 225), w_64, w_56, g_45, w_57, w_58, w_59, w_60, g_46, ((Y ++ [laC r_33 x0 g_36 g_37]) ++ [laC r_44 x1 g_47 g_48]), ⟨hmono_54, hL_49, hp_61⟩, rfl⟩ hP hD hS dX9_step_76
        · refine lv_iload_n hx hb dX9_step_59 rfl (lv_at hl 4 rfl) ?_
          refine lv_aload_n hx hb dX9_step_60 rfl (lv_at hl 1 rfl) ?_
          refine va_get (D := D) (ci := 8) (v := .ref (a 3)) (C := RX9) (T := TX9) (N := 11) hx hb hts hi9 hown hK hP 0 rfl rfl 2 (by decide) hw2 (fun _ h9 => h9) rfl dX9_step_61 ?_
          refine kRa_i (As := []) (rest := [.int x2]) (q0 := 3) ⟨hx, hb, hml, hown, hts⟩ (t_X2_distance l D cy a _ (va_up (va_up J 224 (J 224)) 225 (J 225)) (va_up (va_up I 10 (I 10)) 99 w_56) (va_up (va_up O 5 g_45) 100 w_57) (va_up (va_up (va_up R 4 w_58) 5 w_59) 6 w_60) RO g_46 ((Y ++ [laC r_33 x0 g_36 g_37]) ++ [laC r_44 x1 g_47 g_48])   ) (cwV 0 hts gX9_step_X2_distance rfl rfl rfl (by decide +kernel) ⟨Nat.le_of_ble_eq_true rfl, Nat.le_of_ble_eq_true rfl⟩) hK hN hP hD rfl rfl rfl hl.1 rfl (Nat.le_of_ble_eq_true rfl) dX9_step_64 ⟨Nat.le_of_ble_eq_true rfl, Nat.le_of_ble_eq_true rfl⟩ (fun r_65 hr_66 => ?_)
          refine lv_icmp_lt (tgt := 77) hx hb dX9_step_67 (by decide) (fun c_67 => ?_) (fun c_67 => ?_)
          · refine lv_aload_n hx hb dX9_step_77 rfl (lv_at hl 1 rfl) ?_
            refine va_get (D := D) (ci := 8) (v := .ref (a 7)) (C := RX9) (T := TX9) (N := 11) hx hb hts hi9 hown hK hP 0 rfl rfl 3 (by decide) hw1 (fun _ h9 => h9) rfl dX9_step_78 ?_
            refine lv_aload hx hb dX9_step_81 (lv_at hl 0 rfl) ?_
            refine lv_lconst (v := 0) hx hb dX9_step_83 (by decide) ?_
            refine kM_v (As := [.ref r_33, .long 0]) (rest := []) (q0 := 7) ⟨hx, hb, hml, hown, hts⟩ (t_X8_start l D cy a _ (va_up (va_up J 224 (J 224)) 225 (J 225)) (va_up (va_up I 10 (I 10)) 99 w_56) (va_up (va_up O 5 g_45) 100 w_57) (va_up (va_up (va_up R 4 w_58) 5 w_59) 6 w_60) RO g_46 ((Y ++ [laC r_33 x0 g_36 g_37]) ++ [laC r_44 x1 g_47 g_48]) r_33 x0 g_36 g_37 (hs_50 _ mem_last) (0 : Int64)   ) (cwV 2 hts gX9_step_X8_start rfl rfl rfl (by decide +kernel) ⟨Nat.le_of_ble_eq_true rfl, Nat.le_of_ble_eq_true rfl⟩) hK hN hP hD hS hA rfl rfl rfl hl.1 rfl (Nat.le_of_ble_eq_true rfl) dX9_step_84 ⟨Nat.le_of_ble_eq_true rfl, Nat.le_of_ble_eq_true rfl⟩ (fun u H locs hw hP hD hS => ?_)
            obtain ⟨w_69, w_70, -, rfl⟩ := hw
            have hP : va_P D vwCl (CT cy a (va_up (va_up J 224 w_69) 225 w_70) (va_up (va_up I 10 (I 10)) 99 w_56) (va_up (va_up O 5 g_45) 100 w_57) (va_up (va_up (va_up R 4 w_58) 5 w_59) 6 w_60) RO (g_46 ++ ((Y ++ [laC r_33 x0 g_36 g_37]) ++ [laC r_44 x1 g_47 g_48]))) H := hP
            have hD : va_D A (CT cy a (va_up (va_up J 224 w_69) 225 w_70) (va_up (va_up I 10 (I 10)) 99 w_56) (va_up (va_up O 5 g_45) 100 w_57) (va_up (va_up (va_up R 4 w_58) 5 w_59) 6 w_60) RO (g_46 ++ ((Y ++ [laC r_33 x0 g_36 g_37]) ++ [laC r_44 x1 g_47 g_48]))) := hD
            refine lv_aload_n hx hb dX9_step_87 rfl (lv_at hl 1 rfl) ?_
            refine va_get (D := D) (ci := 8) (v := .ref (a 7)) (C := RX9) (T := TX9) (N := 11) hx hb hts hi9 hown hK hP 0 rfl rfl 3 (by decide) hw1 (fun _ h9 => h9) rfl dX9_step_88 ?_
            refine lv_aload_n hx hb dX9_step_91 rfl (lv_at hl 1 rfl) ?_
            refine va_get (D := D) (ci := 8) (v := .ref (a 3)) (C := RX9) (T := TX9) (N := 11) hx hb hts hi9 hown hK hP 0 rfl rfl 2 (by decide) hw2 (fun _ h9 => h9) rfl dX9_step_92 ?_
            refine va_get (D := D) (ci := 1) (v := .ref (a 4)) (C := RX2) (T := TX2) (N := 5) hx hb hts hi2 hown hK hP 3 rfl rfl 0 (by decide) hw3 (fun _ h9 => h9) rfl dX9_step_95 ?_
            refine lv_aload_n hx hb dX9_step_98 rfl (lv_at hl 1 rfl) ?_
            refine va_get (D := D) (ci := 8) (v := .ref (a 3)) (C := RX9) (T := TX9) (N := 11) hx hb hts hi9 hown hK hP 0 rfl rfl 2 (by decide) hw2 (fun _ h9 => h9) rfl dX9_step_99 ?_
            refine va_get (D := D) (ci := 1) (v := .ref (a 5)) (C := RX2) (T := TX2) (N := 5) hx hb hts hi2 hown hK hP 3 rfl rfl 1 (by decide) hw4 (fun _ h9 => h9) rfl dX9_step_102 ?_
            refine kRa_i (As := [.ref (a 4), .ref (a 5)]) (rest := []) (q0 := 7) ⟨hx, hb, hml, hown, hts⟩ (t_X8_leastToward l D cy a _ (va_up (va_up J 224 w_69) 225 w_70) (va_up (va_up I 10 (I 10)) 99 w_56) (va_up (va_up O 5 g_45) 100 w_57) (va_up (va_up (va_up R 4 w_58) 5 w_59) 6 w_60) RO g_46 ((Y ++ [laC r_33 x0 g_36 g_37]) ++ [laC r_44 x1 g_47 g_48])   ) (cwV 2 hts gX9_step_X8_leastToward rfl rfl rfl (by decide +kernel) ⟨Nat.le_of_ble_eq_true rfl, Nat.le_of_ble_eq_true rfl⟩) hK hN hP hD rfl rfl rfl hl.1 rfl (Nat.le_of_ble_eq_true rfl) dX9_step_105 ⟨Nat.le_of_ble_eq_true rfl, Nat.le_of_ble_eq_true rfl⟩ (fun r_71 hr_72 => ?_)
            refine lv_istore (lv' := [(5, .int r_71), (4, .ref r_33), (0, .ref (a 0)), (1, .int x0), (2, .int x1), (3, .int x2)]) hx hb dX9_step_108 hl (by decide) rfl (fun ls hl => ?_)
            refine lv_iconst (v := 0) hx hb dX9_step_110 (by decide) ?_
            refine lv_istore (lv' := [(6, .int 0), (5, .int r_71), (4, .ref r_33), (0, .ref (a 0)), (1, .int x0), (2, .int x1), (3, .int x2)]) hx hb dX9_step_111 hl (by decide) rfl (fun ls hl => ?_)
            exact lp113 _ 0 r_71 w_69 w_70 (I 10) w_56 g_45 w_57 w_58 w_59 w_60 g_46 ((Y ++ [laC r_33 x0 g_36 g_37]) ++ [laC r_44 x1 g_47 g_48]) (Nat.zero_le _) hmono_54 hL_49 hr_72 hp_61 (Nat.lt_succ_self _) _ _ hP hD hS ls (lv_sub hl [3, 6, 1, 0] rfl)
          · refine lv_aload_n hx hb dX9_step_70 rfl (lv_at hl 1 rfl) ?_
            refine lv_ldc (v := (-100006)) hx hb hown hw0 dX9_step_71 ?_
            refine kM_i (As := [.int (-100006)]) (rest := []) (q0 := 0) ⟨hx, hb, hml, hown, hts⟩ (t_X9_finding l D cy a _ (va_up (va_up J 224 (J 224)) 225 (J 225)) (va_up (va_up I 10 (I 10)) 99 w_56) (va_up (va_up O 5 g_45) 100 w_57) (va_up (va_up (va_up R 4 w_58) 5 w_59) 6 w_60) RO g_46 ((Y ++ [laC r_33 x0 g_36 g_37]) ++ [laC r_44 x1 g_47 g_48]) ((-100006) : Int32)   ) (cwV 1 hts gX9_step_X9_finding rfl rfl rfl (by decide +kernel) ⟨Nat.le_of_ble_eq_true rfl, Nat.le_of_ble_eq_true rfl⟩) hK hN hP hD hS hA rfl rfl rfl hl.1 rfl (Nat.le_of_ble_eq_true rfl) dX9_step_73 ⟨Nat.le_of_ble_eq_true rfl, Nat.le_of_ble_eq_true rfl⟩ (fun r_73 u H locs hw hP hD hS => ?_)
            obtain ⟨w_74, rfl, rfl⟩ := hw
            have hP : va_P D vwCl (CT cy a (va_up (va_up J 224 (J 224)) 225 (J 225)) (va_up (va_up I 10 w_74) 99 w_56) (va_up (va_up O 5 g_45) 100 w_57) (va_up (va_up (va_up R 4 w_58) 5 w_59) 6 w_60) RO (g_46 ++ ((Y ++ [laC r_33 x0 g_36 g_37]) ++ [laC r_44 x1 g_47 g_48]))) H := hP
            have hD : va_D A (CT cy a (va_up (va_up J 224 (J 224)) 225 (J 225)) (va_up (va_up I 10 w_74) 99 w_56) (va_up (va_up O 5 g_45) 100 w_57) (va_up (va_up (va_up R 4 w_58) 5 w_59) 6 w_60) RO (g_46 ++ ((Y ++ [laC r_33 x0 g_36 g_37]) ++ [laC r_44 x1 g_47 g_48]))) := hD
            exact wret_i hx hb hr hlocks ((va_up (va_up J 224 (J 224)) 225 (J 225)), (va_up (va_up I 10 w_74) 99 w_56), (va_up (va_up O 5 g_45) 100 w_57), (va_up (va_up (va_up R 4 w_58) 5 w_59) 6 w_60), RO, g_46, (Y ++ [laC r_33 x0 g_36 g_37]) ++ [laC r_44 x1 g_47 g_48]) ⟨(J 224), (J 225), w_74, w_56, g_45, w_57, w_58, w_59, w_60, g_46, ((Y ++ [laC r_33 x0 g_36 g_37]) ++ [laC r_44 x1 g_47 g_48]), ⟨hmono_54, hL_49, hp_61⟩, rfl⟩ hP hD hS dX9_step_76
      · replace c_32 := bI_f c_32
        refine lv_aload_n hx hb dX9_step_30 rfl (lv_at hl 0 rfl) ?_
        refine lv_ldc (v := (-100001)) hx hb hown hw5 dX9_step_31 ?_
        refine kM_i (As := [.int (-100001)]) (rest := []) (q0 := 0) ⟨hx, hb, hml, hown, hts⟩ (t_X9_finding l D cy a _ (va_up (va_up J 224 (J 224)) 225 (J 225)) (va_up (va_up I 10 (I 10)) 99 (I 99)) (va_up (va_up O 5 w_28) 100 (O 100)) (va_up (va_up (va_up R 4 (R 4)) 5 (R 5)) 6 (R 6)) RO LL_30 Y ((-100001) : Int32)   ) (cwV 1 hts gX9_step_X9_finding rfl rfl rfl (by decide +kernel) ⟨Nat.le_of_ble_eq_true rfl, Nat.le_of_ble_eq_true rfl⟩) hK hN hP hD hS hA rfl rfl rfl hl.1 rfl (Nat.le_of_ble_eq_true rfl) dX9_step_33 ⟨Nat.le_of_ble_eq_true rfl, Nat.le_of_ble_eq_true rfl⟩ (fun r_75 u H locs hw hP hD hS => ?_)
        obtain ⟨w_76, rfl, rfl⟩ := hw
        have hP : va_P D vwCl (CT cy a (va_up (va_up J 224 (J 224)) 225 (J 225)) (va_up (va_up I 10 w_76) 99 (I 99)) (va_up (va_up O 5 w_28) 100 (O 100)) (va_up (va_up (va_up R 4 (R 4)) 5 (R 5)) 6 (R 6)) RO (LL_30 ++ Y)) H := hP
        have hD : va_D A (CT cy a (va_up (va_up J 224 (J 224)) 225 (J 225)) (va_up (va_up I 10 w_76) 99 (I 99)) (va_up (va_up O 5 w_28) 100 (O 100)) (va_up (va_up (va_up R 4 (R 4)) 5 (R 5)) 6 (R 6)) RO (LL_30 ++ Y)) := hD
        refine W.widen (k := 14) (n := 68630) (Nat.le_of_ble_eq_true rfl) (Nat.le_of_ble_eq_true rfl) ?_
        exact wret_i hx hb hr hlocks ((va_up (va_up J 224 (J 224)) 225 (J 225)), (va_up (va_up I 10 w_76) 99 (I 99)), (va_up (va_up O 5 w_28) 100 (O 100)), (va_up (va_up (va_up R 4 (R 4)) 5 (R 5)) 6 (R 6)), RO, LL_30, Y) ⟨(J 224), (J 225), w_76, (I 99), w_28, (O 100), (R 4), (R 5), (R 6), LL_30, Y, ⟨(fun _ h => h), hL_31, hQ⟩, rfl⟩ hP hD hS dX9_step_36
  · replace c_18 := bI_f c_18
    refine lv_aload_n hx hb dX9_step_7 rfl (lv_at hl 0 rfl) ?_
    refine lv_ldc (v := (-100004)) hx hb hown hw6 dX9_step_8 ?_
    refine kM_i (As := [.int (-100004)]) (rest := []) (q0 := 0) ⟨hx, hb, hml, hown, hts⟩ (t_X9_finding l D cy a _ (va_up (va_up J 224 (J 224)) 225 (J 225)) (va_up (va_up I 10 (I 10)) 99 (I 99)) (va_up (va_up O 5 (O 5)) 100 (O 100)) (va_up (va_up (va_up R 4 (R 4)) 5 (R 5)) 6 (R 6)) RO LL Y ((-100004) : Int32)   ) (cwV 1 hts gX9_step_X9_finding rfl rfl rfl (by decide +kernel) ⟨Nat.le_of_ble_eq_true rfl, Nat.le_of_ble_eq_true rfl⟩) hK hN hP hD hS hA rfl rfl rfl hl.1 rfl (Nat.le_of_ble_eq_true rfl) dX9_step_10 ⟨Nat.le_of_ble_eq_true rfl, Nat.le_of_ble_eq_true rfl⟩ (fun r_77 u H locs hw hP hD hS => ?_)
    obtain ⟨w_78, rfl, rfl⟩ := hw
    have hP : va_P D vwCl (CT cy a (va_up (va_up J 224 (J 224)) 225 (J 225)) (va_up (va_up I 10 w_78) 99 (I 99)) (va_up (va_up O 5 (O 5)) 100 (O 100)) (va_up (va_up (va_up R 4 (R 4)) 5 (R 5)) 6 (R 6)) RO (LL ++ Y)) H := hP
    have hD : va_D A (CT cy a (va_up (va_up J 224 (J 224)) 225 (J 225)) (va_up (va_up I 10 w_78) 99 (I 99)) (va_up (va_up O 5 (O 5)) 100 (O 100)) (va_up (va_up (va_up R 4 (R 4)) 5 (R 5)) 6 (R 6)) RO (LL ++ Y)) := hD
    refine W.widen (k := 14) (n := 68630) (Nat.le_of_ble_eq_true rfl) (Nat.le_of_ble_eq_true rfl) ?_
    exact wret_i hx hb hr hlocks ((va_up (va_up J 224 (J 224)) 225 (J 225)), (va_up (va_up I 10 w_78) 99 (I 99)), (va_up (va_up O 5 (O 5)) 100 (O 100)), (va_up (va_up (va_up R 4 (R 4)) 5 (R 5)) 6 (R 6)), RO, LL, Y) ⟨(J 224), (J 225), w_78, (I 99), (O 5), (O 100), (R 4), (R 5), (R 6), LL, Y, ⟨(fun _ h => h), hL, hQ⟩, rfl⟩ hP hD hS dX9_step_13
theorem dX9_meet_0 : decode cX9_meet 0 = .ok (.aload_n 0, 1) := by decide +kernel
set_option maxRecDepth 20000 in
theorem ggX9_meet_X9_isWhole : GoodIn wsX9_meet wsX9_isWhole := goodIn_r _ [9, 4, 10, 11, 12, 8, 13, 14, 15, 16, 17, 18, 19, 20, 21, 22, 23, 24, 25, 26, 27, 28, 29, 30, 31, 32, 33, 34, 35, 36, 37, 38, 39, 40, 41, 42, 43, 44, 196, 197, 198, 199, 200, 201, 202, 203, 204, 205, 206, 207, 208, 209, 210, 211, 212, 213] rfl (by decide +kernel)
set_option maxRecDepth 20000 in
theorem gX9_meet_X9_isWhole : GoodIn wsX9_meet (wsV RX9 84 RX9 yX9_isWhole wsX9_isWhole) := goodIn_app (goodIn_r _ [5, 6, 7, 8] rfl (by decide +kernel)) ggX9_meet_X9_isWhole
theorem dX9_meet_1 : decode cX9_meet 1 = .ok (.invokevirtual 84, 3) := by decide +kernel
theorem dX9_meet_4 : decode cX9_meet 4 = .ok (.ifCond .ne 10, 3) := by decide +kernel
theorem dX9_meet_14 : decode cX9_meet 14 = .ok (.aload_n 0, 1) := by decide +kernel
theorem dX9_meet_15 : decode cX9_meet 15 = .ok (.iload_n 1, 1) := by decide +kernel
set_option maxRecDepth 20000 in
theorem ggX9_meet_X9_isLaying : GoodIn wsX9_meet wsX9_isLaying := goodIn_r _ [53, 54, 55, 56, 8, 57, 58, 59, 60, 61, 4, 62, 63, 64, 65, 66, 67, 68, 69, 70, 10, 11, 12, 13, 14, 15, 16, 17, 18, 19, 20, 21, 22, 23, 24, 71, 72, 73, 74, 75, 76, 77, 78, 79, 80, 81, 82, 83, 35, 27, 36, 84, 85, 86, 87, 88, 89, 90, 196, 197, 198, 199, 200, 201, 202, 203, 204, 205, 206, 214, 215, 216, 217, 207, 208, 209, 210, 211, 212, 213] rfl (by decide +kernel)
set_option maxRecDepth 20000 in
theorem gX9_meet_X9_isLaying : GoodIn wsX9_meet (wsV RX9 189 RX9 yX9_isLaying wsX9_isLaying) := goodIn_app (goodIn_r _ [50, 51, 52, 8] rfl (by decide +kernel)) ggX9_meet_X9_isLaying
theorem dX9_meet_16 : decode cX9_meet 16 = .ok (.invokevirtual 189, 3) := by decide +kernel
theorem dX9_meet_19 : decode cX9_meet 19 = .ok (.ifCond .eq 11, 3) := by decide +kernel
theorem dX9_meet_30 : decode cX9_meet 30 = .ok (.aload_n 0, 1) := by decide +kernel
theorem dX9_meet_31 : decode cX9_meet 31 = .ok (.ldc 43, 2) := by decide +kernel
set_option maxRecDepth 20000 in
theorem ggX9_meet_X9_finding : GoodIn wsX9_meet wsX9_finding := goodIn_r _ [48, 49, 196, 197, 198, 199, 200, 201, 202, 203, 204, 205, 206] rfl (by decide +kernel)
set_option maxRecDepth 20000 in
theorem gX9_meet_X9_finding : GoodIn wsX9_meet (wsV RX9 44 RX9 yX9_finding wsX9_finding) := goodIn_app (goodIn_r _ [45, 46, 47, 8] rfl (by decide +kernel)) ggX9_meet_X9_finding
theorem dX9_meet_33 : decode cX9_meet 33 = .ok (.invokevirtual 44, 3) := by decide +kernel
theorem dX9_meet_36 : decode cX9_meet 36 = .ok (.ireturn, 1) := by decide +kernel
theorem dX9_meet_22 : decode cX9_meet 22 = .ok (.aload_n 0, 1) := by decide +kernel
theorem dX9_meet_23 : decode cX9_meet 23 = .ok (.iload_n 2, 1) := by decide +kernel
theorem dX9_meet_24 : decode cX9_meet 24 = .ok (.invokevirtual 189, 3) := by decide +kernel
theorem dX9_meet_27 : decode cX9_meet 27 = .ok (.ifCond .ne 10, 3) := by decide +kernel
theorem dX9_meet_37 : decode cX9_meet 37 = .ok (.aload_n 0, 1) := by decide +kernel
theorem dX9_meet_38 : decode cX9_meet 38 = .ok (.aload_n 0, 1) := by decide +kernel
theorem dX9_meet_39 : decode cX9_meet 39 = .ok (.iload_n 1, 1) := by decide +kernel
set_option maxRecDepth 20000 in
theorem ggX9_meet_X9_layingOf : GoodIn wsX9_meet wsX9_layingOf := goodIn_r _ [94, 95, 96, 97, 54, 55, 56, 8, 57, 58, 59, 60, 61, 4, 62, 63, 64, 65, 66, 67, 68, 69, 70, 10, 11, 12, 13, 14, 15, 16, 17, 18, 19, 20, 21, 22, 23, 24, 71, 72, 73, 74, 75, 76, 77, 78, 79, 80, 81, 82, 83, 35, 27, 36, 84, 85, 86, 98, 99, 100, 101, 102, 103, 104, 105, 106, 107, 108, 109, 110, 111, 112, 113, 114, 115, 116, 117, 118, 119, 120, 121, 122, 123, 124, 125, 126, 127, 128, 218, 219, 220, 196, 197, 198, 199, 200, 201, 202, 203, 204, 205, 206, 214, 215, 216, 217, 207, 208, 209, 210, 211, 212, 213] rfl (by decide +kernel)
set_option maxRecDepth 20000 in
theorem gX9_meet_X9_layingOf : GoodIn wsX9_meet (wsV RX9 192 RX9 yX9_layingOf wsX9_layingOf) := goodIn_app (goodIn_r _ [91, 92, 93, 8] rfl (by decide +kernel)) ggX9_meet_X9_layingOf
theorem dX9_meet_40 : decode cX9_meet 40 = .ok (.invokevirtual 192, 3) := by decide +kernel
theorem dX9_meet_43 : decode cX9_meet 43 = .ok (.aload_n 0, 1) := by decide +kernel
theorem dX9_meet_44 : decode cX9_meet 44 = .ok (.iload_n 2, 1) := by decide +kernel
theorem dX9_meet_45 : decode cX9_meet 45 = .ok (.invokevirtual 192, 3) := by decide +kernel
set_option maxRecDepth 20000 in
theorem ggX9_meet_X9_measureBoth : GoodIn wsX9_meet wsX9_measureBoth := goodIn_r _ [132, 3, 4, 133, 134, 135, 136, 137, 138, 139, 140, 141, 142, 143, 144, 145, 146, 147, 148, 149, 150, 35, 27, 36, 151, 152, 153, 154, 155, 156, 157, 158, 159, 160, 161, 162, 163, 164, 34, 165, 166, 167, 168, 169, 170, 171, 196, 197, 198, 199, 200, 201, 202, 203, 204, 205, 206, 221, 222, 223, 224, 225, 218, 219, 220] rfl (by decide +kernel)
set_option maxRecDepth 20000 in
theorem gX9_meet_X9_measureBoth : GoodIn wsX9_meet (wsV RX9 245 RX9 yX9_measureBoth wsX9_measureBoth) := goodIn_app (goodIn_r _ [129, 130, 131, 8] rfl (by decide +kernel)) ggX9_meet_X9_measureBoth
theorem dX9_meet_48 : decode cX9_meet 48 = .ok (.invokevirtual 245, 3) := by decide +kernel
theorem dX9_meet_51 : decode cX9_meet 51 = .ok (.aload_n 0, 1) := by decide +kernel
theorem dX9_meet_52 : decode cX9_meet 52 = .ok (.getfield 24, 3) := by decide +kernel
theorem dX9_meet_55 : decode cX9_meet 55 = .ok (.iload_n 3, 1) := by decide +kernel
set_option maxRecDepth 20000 in
theorem ggX9_meet_X2_mix : GoodIn wsX9_meet wsX2_mix := goodIn_r _ [175, 176, 177, 178, 179, 180, 181, 182, 183, 184, 221, 222, 223, 224, 225] rfl (by decide +kernel)
set_option maxRecDepth 20000 in
theorem gX9_meet_X2_mix : GoodIn wsX9_meet (wsV RX9 263 RX2 yX2_mix wsX2_mix) := goodIn_app (goodIn_r _ [172, 173, 174, 138] rfl (by decide +kernel)) ggX9_meet_X2_mix
theorem dX9_meet_56 : decode cX9_meet 56 = .ok (.invokevirtual 263, 3) := by decide +kernel
theorem dX9_meet_59 : decode cX9_meet 59 = .ok (.aload_n 0, 1) := by decide +kernel
set_option maxRecDepth 20000 in
theorem ggX9_meet_X9_knownLayings : GoodIn wsX9_meet wsX9_knownLayings := goodIn_r _ [57, 58, 59, 60, 61, 4, 62, 63, 64, 65, 66, 67, 68, 69, 70, 10, 11, 12, 8, 13, 14, 15, 16, 17, 18, 19, 20, 21, 22, 23, 24, 71, 72, 73, 74, 75, 76, 77, 78, 79, 80, 81, 82, 83, 35, 27, 36, 84, 85, 86, 196, 197, 198, 199, 200, 201, 202, 203, 204, 205, 206, 214, 215, 216, 217, 207, 208, 209, 210, 211, 212, 213] rfl (by decide +kernel)
set_option maxRecDepth 20000 in
theorem gX9_meet_X9_knownLayings : GoodIn wsX9_meet (wsV RX9 170 RX9 yX9_knownLayings wsX9_knownLayings) := goodIn_app (goodIn_r _ [54, 55, 56, 8] rfl (by decide +kernel)) ggX9_meet_X9_knownLayings
theorem dX9_meet_60 : decode cX9_meet 60 = .ok (.invokevirtual 170, 3) := by decide +kernel
theorem dX9_meet_63 : decode cX9_meet 63 = .ok (.aload_n 0, 1) := by decide +kernel
theorem dX9_meet_64 : decode cX9_meet 64 = .ok (.getfield 24, 3) := by decide +kernel
theorem dX9_meet_67 : decode cX9_meet 67 = .ok (.aload_n 0, 1) := by decide +kernel
theorem dX9_meet_68 : decode cX9_meet 68 = .ok (.getfield 48, 3) := by decide +kernel
set_option maxRecDepth 20000 in
theorem ggX9_meet_X2_acrossStones : GoodIn wsX9_meet wsX2_acrossStones := goodIn_r _ [188, 176, 189, 190, 180, 191, 151, 152, 138, 153, 150, 35, 27, 36, 221, 222, 223, 224, 225] rfl (by decide +kernel)
set_option maxRecDepth 20000 in
theorem gX9_meet_X2_acrossStones : GoodIn wsX9_meet (wsV RX9 266 RX2 yX2_acrossStones wsX2_acrossStones) := goodIn_app (goodIn_r _ [185, 186, 187, 138] rfl (by decide +kernel)) ggX9_meet_X2_acrossStones
theorem dX9_meet_71 : decode cX9_meet 71 = .ok (.invokevirtual 266, 3) := by decide +kernel
set_option maxRecDepth 20000 in
theorem ggX9_meet_X4_numberOf : GoodIn wsX9_meet wsX4_numberOf := goodIn_r _ [195, 102, 103, 104, 61, 105, 76, 83, 35, 27, 36, 106, 107, 108, 109, 69, 80, 81, 82, 214, 215, 216, 217] rfl (by decide +kernel)
set_option maxRecDepth 20000 in
theorem gX9_meet_X4_numberOf : GoodIn wsX9_meet (wsV RX9 223 RX4 yX4_numberOf wsX4_numberOf) := goodIn_app (goodIn_r _ [192, 193, 194, 61] rfl (by decide +kernel)) ggX9_meet_X4_numberOf
theorem dX9_meet_74 : decode cX9_meet 74 = .ok (.invokevirtual 223, 3) := by decide +kernel
theorem dX9_meet_77 : decode cX9_meet 77 = .ok (.ireturn, 1) := by decide +kernel
theorem dX9_meet_7 : decode cX9_meet 7 = .ok (.aload_n 0, 1) := by decide +kernel
theorem dX9_meet_8 : decode cX9_meet 8 = .ok (.ldc 128, 2) := by decide +kernel
theorem dX9_meet_10 : decode cX9_meet 10 = .ok (.invokevirtual 44, 3) := by decide +kernel
theorem dX9_meet_13 : decode cX9_meet 13 = .ok (.ireturn, 1) := by decide +kernel
set_option maxRecDepth 20000 in
theorem ihX9_meet_9 : ∀ w ∈ u_ws RX9 TX9 11, w ∈ wsX9_meet := fun _ h => List.mem_cons_of_mem _ (List.mem_append_left _ (List.mem_append_left _ (List.mem_append_left _ (List.mem_append_left _ (List.mem_append_right _ h)))))
set_option maxHeartbeats 4000000 in
set_option maxRecDepth 100000 in
theorem t_X9_meet (l : Launch) (D : va_G) (cy : Nat → ClassId) (a : Nat → Nat) (sz : Nat) (J : Nat → Int64) (I : Nat → Int32) (O : Nat → Option Nat) (R : Nat → Nat → Int32) (RO : Nat → Nat → Option Nat) (LL : va_W) (Y : va_W) (x0 : Int32) (x1 : Int32) (x2 : Bool) (hQ : ∀ i, i < 81 → vp_in (R 6 i) 81) (hM : CI a Y I O RO) (hL : LOK cy (O 5) LL) : Met l yX9_meet wsX9_meet ({ frames := 6, cells := 17, slots := 85786, locals := 145 }) (va_Pc [.ref (a 0), .int x0, .int x1, .int (bI x2)] (PW D cy sz (CT cy a J I O R RO (LL ++ Y)))) (va_Qi (fun r (u : TS) => ∃ (w0 : Int32), ∃ (w1 : Int32), ∃ (w2 : Option Nat), ∃ (w3 : Option Nat), ∃ (w4 : Nat → Int32), ∃ (w5 : Nat → Int32), ∃ (w6 : Nat → Int32), ∃ (LL9 : va_W), ∃ (Y9 : va_W), ((∀ c, c ∈ Y → c ∈ Y9) ∧ LOK cy w2 LL9 ∧ (∀ i, i < 81 → vp_in (w6 i) 81)) ∧ u = (J, (va_up (va_up I 10 w0) 99 w1), (va_up (va_up O 5 w2) 100 w3), (va_up (va_up (va_up R 4 w4) 5 w5) 6 w6), RO, LL9, Y9)) (BW D (va_A (CT cy a J I O R RO (LL ++ Y)) sz) (CTu cy a)) (va_A (CT cy a J I O R RO (LL ++ Y)) sz)) 17 85786 (va_A (CT cy a J I O R RO (LL ++ Y)) sz) := by
  refine Met.ofW (cc := cX9_meet) (maxL := 4) (ret := (some .int)) (by decide) rfl ?_
  intro p e s m args below meth c s₁ B hml hv
  obtain ⟨rfl, rfl, hP, hK, hN, hD0⟩ := hv
  have hx := B.exec
  have hb := B.bytes
  have hr := B.returns
  have hts := atoms_spec (ws := wsX9_meet) B.pre
  have hown : s.vm.findClass RX9 = some m.cls := findClass_of_methodNamed B.named
  have hlocks := B.notSynchronized
  have hw0 := hts (.constant RX9 43 (-100001)) (by decide +kernel)
  have hw1 := hts (.fieldLink RX9 24 "ParquetLayer" "heights" "LParquetLayer$Heights;") (by decide +kernel)
  have hw2 := hts (.fieldLink RX9 48 "ParquetLayer" "fields" "J") (by decide +kernel)
  have hw3 := hts (.constant RX9 128 (-100004)) (by decide +kernel)
  have hi9 := ihX9_meet_9
  have hD := hD0.self (sz := s.heap.size)
  generalize hAe : va_A (CT cy a J I O R RO (LL ++ Y)) s.heap.size = A at hD ⊢
  have hA : ∀ q : Nat, s.heap.size ≤ q → A q := fun q h => by rw [← hAe]; exact Or.inr h
  have hS : va_S A s.heap s.heap [] := va_S.rf
  have hl := lv_entry ([.ref (a 0), .int x0, .int x1, .int (bI x2)]) (n := 4) (Nat.le_of_ble_eq_true rfl)
  rw [lg_entry_eq]
  generalize (lg_sl ([.ref (a 0), .int x0, .int x1, .int (bI x2)]) ++ List.replicate (4 - (lg_sl ([.ref (a 0), .int x0, .int x1, .int (bI x2)])).length) Slot.unset).toArray = ls at hl ⊢
  have hl : lv_has ls 4 [(0, .ref (a 0)), (1, .int x0), (2, .int x1), (3, .int (bI x2))] := hl
  have hRO0 := hM.2.2.2.2.2.2.2.2.1
  have hRO1 := hM.2.2.2.2.2.2.2.2.2.1
  have hRO2 := hM.2.2.2.2.2.2.2.2.2.2.1
  have hRO3 := hM.2.2.2.2.2.2.2.2.2.2.2
  have hP : va_P D vwCl (CT cy a J (va_up (va_up I 10 (I 10)) 99 (I 99)) (va_up (va_up O 5 (O 5)) 100 (O 100)) (va_up (va_up (va_up R 4 (R 4)) 5 (R 5)) 6 (R 6)) RO (LL ++ Y)) s.heap := hP
  have hD : va_D A (CT cy a J (va_up (va_up I 10 (I 10)) 99 (I 99)) (va_up (va_up O 5 (O 5)) 100 (O 100)) (va_up (va_up (va_up R 4 (R 4)) 5 (R 5)) 6 (R 6)) RO (LL ++ Y)) := hD
  refine lv_aload_n hx hb dX9_meet_0 rfl (lv_at hl 0 rfl) ?_
  refine kRa_i (As := []) (rest := []) (q0 := 0) ⟨hx, hb, hml, hown, hts⟩ (t_X9_isWhole l D cy a _ J (va_up (va_up I 10 (I 10)) 99 (I 99)) (va_up (va_up O 5 (O 5)) 100 (O 100)) (va_up (va_up (va_up R 4 (R 4)) 5 (R 5)) 6 (R 6)) RO LL Y   ⟨hM.1, hM.2.1, hM.2.2.1, hM.2.2.2.1, hM.2.2.2.2.1, hM.2.2.2.2.2.1, hM.2.2.2.2.2.2.1, hM.2.2.2.2.2.2.2.1, hRO0, hRO1, hRO2, hRO3⟩) (cwV 0 hts gX9_meet_X9_isWhole rfl rfl rfl (by decide +kernel) ⟨Nat.le_of_ble_eq_true rfl, Nat.le_of_ble_eq_true rfl⟩) hK hN hP hD rfl rfl rfl hl.1 rfl (Nat.le_of_ble_eq_true rfl) dX9_meet_1 ⟨Nat.le_of_ble_eq_true rfl, Nat.le_of_ble_eq_true rfl⟩ (fun r_1 hr_2 => ?_)
  obtain ⟨zb_3, rfl⟩ := hr_2
  refine lv_if_ne (tgt := 14) hx hb dX9_meet_4 (by decide) (fun c_4 => ?_) (fun c_4 => ?_)
  · replace c_4 := bI_t c_4
    refine lv_aload_n hx hb dX9_meet_14 rfl (lv_at hl 0 rfl) ?_
    refine lv_iload_n hx hb dX9_meet_15 rfl (lv_at hl 1 rfl) ?_
    refine kM_i (As := [.int x0]) (rest := []) (q0 := 0) ⟨hx, hb, hml, hown, hts⟩ (t_X9_isLaying l D cy a _ J (va_up (va_up I 10 (I 10)) 99 (I 99)) (va_up (va_up O 5 (O 5)) 100 (O 100)) (va_up (va_up (va_up R 4 (R 4)) 5 (R 5)) 6 (R 6)) RO LL Y x0  ⟨hM.1, hM.2.1, hM.2.2.1, hM.2.2.2.1, hM.2.2.2.2.1, hM.2.2.2.2.2.1, hM.2.2.2.2.2.2.1, hM.2.2.2.2.2.2.2.1, hRO0, hRO1, hRO2, hRO3⟩ hL) (cwV 1 hts gX9_meet_X9_isLaying rfl rfl rfl (by decide +kernel) ⟨Nat.le_of_ble_eq_true rfl, Nat.le_of_ble_eq_true rfl⟩) hK hN hP hD hS hA rfl rfl rfl hl.1 rfl (Nat.le_of_ble_eq_true rfl) dX9_meet_16 ⟨Nat.le_of_ble_eq_true rfl, Nat.le_of_ble_eq_true rfl⟩ (fun r_5 u H locs hw hP hD hS => ?_)
    obtain ⟨w_6, zb_7, LL_8, ⟨rfl, hL_9⟩, rfl⟩ := hw
    have hP : va_P D vwCl (CT cy a J (va_up (va_up I 10 (I 10)) 99 (I 99)) (va_up (va_up O 5 w_6) 100 (O 100)) (va_up (va_up (va_up R 4 (R 4)) 5 (R 5)) 6 (R 6)) RO (LL_8 ++ Y)) H := hP
    have hD : va_D A (CT cy a J (va_up (va_up I 10 (I 10)) 99 (I 99)) (va_up (va_up O 5 w_6) 100 (O 100)) (va_up (va_up (va_up R 4 (R 4)) 5 (R 5)) 6 (R 6)) RO (LL_8 ++ Y)) := hD
    refine lv_if_eq (tgt := 30) hx hb dX9_meet_19 (by decide) (fun c_10 => ?_) (fun c_10 => ?_)
    · replace c_10 := bI_f c_10
      refine lv_aload_n hx hb dX9_meet_30 rfl (lv_at hl 0 rfl) ?_
      refine lv_ldc (v := (-100001)) hx hb hown hw0 dX9_meet_31 ?_
      refine kM_i (As := [.int (-100001)]) (rest := []) (q0 := 0) ⟨hx, hb, hml, hown, hts⟩ (t_X9_finding l D cy a _ J (va_up (va_up I 10 (I 10)) 99 (I 99)) (va_up (va_up O 5 w_6) 100 (O 100)) (va_up (va_up (va_up R 4 (R 4)) 5 (R 5)) 6 (R 6)) RO LL_8 Y ((-100001) : Int32)   ) (cwV 1 hts gX9_meet_X9_finding rfl rfl rfl (by decide +kernel) ⟨Nat.le_of_ble_eq_true rfl, Nat.le_of_ble_eq_true rfl⟩) hK hN hP hD hS hA rfl rfl rfl hl.1 rfl (Nat.le_of_ble_eq_true rfl) dX9_meet_33 ⟨Nat.le_of_ble_eq_true rfl, Nat.le_of_ble_eq_true rfl⟩ (fun r_11 u H locs hw hP hD hS => ?_)
      obtain ⟨w_12, rfl, rfl⟩ := hw
      have hP : va_P D vwCl (CT cy a J (va_up (va_up I 10 w_12) 99 (I 99)) (va_up (va_up O 5 w_6) 100 (O 100)) (va_up (va_up (va_up R 4 (R 4)) 5 (R 5)) 6 (R 6)) RO (LL_8 ++ Y)) H := hP
      have hD : va_D A (CT cy a J (va_up (va_up I 10 w_12) 99 (I 99)) (va_up (va_up O 5 w_6) 100 (O 100)) (va_up (va_up (va_up R 4 (R 4)) 5 (R 5)) 6 (R 6)) RO (LL_8 ++ Y)) := hD
      refine W.widen (k := 17) (n := 85786) (Nat.le_of_ble_eq_true rfl) (Nat.le_of_ble_eq_true rfl) ?_
      exact wret_i hx hb hr hlocks (J, (va_up (va_up I 10 w_12) 99 (I 99)), (va_up (va_up O 5 w_6) 100 (O 100)), (va_up (va_up (va_up R 4 (R 4)) 5 (R 5)) 6 (R 6)), RO, LL_8, Y) ⟨w_12, (I 99), w_6, (O 100), (R 4), (R 5), (R 6), LL_8, Y, ⟨(fun _ h => h), hL_9, hQ⟩, rfl⟩ hP hD hS dX9_meet_36
    · replace c_10 := bI_t c_10
      refine lv_aload_n hx hb dX9_meet_22 rfl (lv_at hl 0 rfl) ?_
      refine lv_iload_n hx hb dX9_meet_23 rfl (lv_at hl 2 rfl) ?_
      refine kM_i (As := [.int x1]) (rest := []) (q0 := 0) ⟨hx, hb, hml, hown, hts⟩ (t_X9_isLaying l D cy a _ J (va_up (va_up I 10 (I 10)) 99 (I 99)) (va_up (va_up O 5 w_6) 100 (O 100)) (va_up (va_up (va_up R 4 (R 4)) 5 (R 5)) 6 (R 6)) RO LL_8 Y x1  ⟨hM.1, hM.2.1, hM.2.2.1, hM.2.2.2.1, hM.2.2.2.2.1, hM.2.2.2.2.2.1, hM.2.2.2.2.2.2.1, hM.2.2.2.2.2.2.2.1, hRO0, hRO1, hRO2, hRO3⟩ hL_9) (cwV 1 hts gX9_meet_X9_isLaying rfl rfl rfl (by decide +kernel) ⟨Nat.le_of_ble_eq_true rfl, Nat.le_of_ble_eq_true rfl⟩) hK hN hP hD hS hA rfl rfl rfl hl.1 rfl (Nat.le_of_ble_eq_true rfl) dX9_meet_24 ⟨Nat.le_of_ble_eq_true rfl, Nat.le_of_ble_eq_true rfl⟩ (fun r_13 u H locs hw hP hD hS => ?_)
      obtain ⟨w_14, zb_15, LL_16, ⟨rfl, hL_17⟩, rfl⟩ := hw
      have hP : va_P D vwCl (CT cy a J (va_up (va_up I 10 (I 10)) 99 (I 99)) (va_up (va_up O 5 w_14) 100 (O 100)) (va_up (va_up (va_up R 4 (R 4)) 5 (R 5)) 6 (R 6)) RO (LL_16 ++ Y)) H := hP
      have hD : va_D A (CT cy a J (va_up (va_up I 10 (I 10)) 99 (I 99)) (va_up (va_up O 5 w_14) 100 (O 100)) (va_up (va_up (va_up R 4 (R 4)) 5 (R 5)) 6 (R 6)) RO (LL_16 ++ Y)) := hD
      refine lv_if_ne (tgt := 37) hx hb dX9_meet_27 (by decide) (fun c_18 => ?_) (fun c_18 => ?_)
      · replace c_18 := bI_t c_18
        refine lv_aload_n hx hb dX9_meet_37 rfl (lv_at hl 0 rfl) ?_
        refine lv_aload_n hx hb dX9_meet_38 rfl (lv_at hl 0 rfl) ?_
        refine lv_iload_n hx hb dX9_meet_39 rfl (lv_at hl 1 rfl) ?_
        refine kM_r (As := [.int x0]) (rest := [.ref (a 0)]) (q0 := 0) ⟨hx, hb, hml, hown, hts⟩ (t_X9_layingOf l D cy a _ J (va_up (va_up I 10 (I 10)) 99 (I 99)) (va_up (va_up O 5 w_14) 100 (O 100)) (va_up (va_up (va_up R 4 (R 4)) 5 (R 5)) 6 (R 6)) RO LL_16 Y x0  ⟨hM.1, hM.2.1, hM.2.2.1, hM.2.2.2.1, hM.2.2.2.2.1, hM.2.2.2.2.2.1, hM.2.2.2.2.2.2.1, hM.2.2.2.2.2.2.2.1, hRO0, hRO1, hRO2, hRO3⟩ hL_17) (cwV 1 hts gX9_meet_X9_layingOf rfl rfl rfl (by decide +kernel) ⟨Nat.le_of_ble_eq_true rfl, Nat.le_of_ble_eq_true rfl⟩) hK hN hP hD hS hA rfl rfl rfl hl.1 rfl (Nat.le_of_ble_eq_true rfl) dX9_meet_40 ⟨Nat.le_of_ble_eq_true rfl, Nat.le_of_ble_eq_true rfl⟩ (fun u r_19 H locs hw hP hD hS => ?_)
        obtain ⟨g_20, g_21, g_22, g_23⟩ := u
        have hL_24 : LOK cy g_20 g_21 := hw
        have hs_25 : ∀ c, c ∈ Y → c ∈ (Y ++ [laC r_19 x0 g_22 g_23]) := fun c h => List.mem_append_left _ h
        have hi_26 : chO (Y ++ [laC r_19 x0 g_22 g_23]) (O 7) := chO_mono hs_25 hM.2.1
        have hi_27 : layO (Y ++ [laC r_19 x0 g_22 g_23]) (O 8) := layO_mono hs_25 hM.2.2.1
        have hi_28 : ∀ i, i < 20 → pasO (Y ++ [laC r_19 x0 g_22 g_23]) ((RO 2) i) := pas_mono hs_25 hM.2.2.2.1
        have hmono_29 : ∀ c, c ∈ Y → c ∈ (Y ++ [laC r_19 x0 g_22 g_23]) := fun c h => hs_25 c ((fun _ h => h) c h)
        have hP : va_P D vwCl (CT cy a J (va_up (va_up I 10 (I 10)) 99 (I 99)) (va_up (va_up O 5 g_20) 100 (O 100)) (va_up (va_up (va_up R 4 (R 4)) 5 (R 5)) 6 (R 6)) RO (g_21 ++ (Y ++ [laC r_19 x0 g_22 g_23]))) H := hP
        have hD : va_D A (CT cy a J (va_up (va_up I 10 (I 10)) 99 (I 99)) (va_up (va_up O 5 g_20) 100 (O 100)) (va_up (va_up (va_up R 4 (R 4)) 5 (R 5)) 6 (R 6)) RO (g_21 ++ (Y ++ [laC r_19 x0 g_22 g_23]))) := hD
        refine lv_aload_n hx hb dX9_meet_43 rfl (lv_at hl 0 rfl) ?_
        refine lv_iload_n hx hb dX9_meet_44 rfl (lv_at hl 2 rfl) ?_
        refine kM_r (As := [.int x1]) (rest := [.ref r_19, .ref (a 0)]) (q0 := 0) ⟨hx, hb, hml, hown, hts⟩ (t_X9_layingOf l D cy a _ J (va_up (va_up I 10 (I 10)) 99 (I 99)) (va_up (va_up O 5 g_20) 100 (O 100)) (va_up (va_up (va_up R 4 (R 4)) 5 (R 5)) 6 (R 6)) RO g_21 (Y ++ [laC r_19 x0 g_22 g_23]) x1  ⟨hM.1, hi_26, hi_27, hi_28, hM.2.2.2.2.1, hM.2.2.2.2.2.1, hM.2.2.2.2.2.2.1, hM.2.2.2.2.2.2.2.1, hRO0, hRO1, hRO2, hRO3⟩ hL_24) (cwV 1 hts gX9_meet_X9_layingOf rfl rfl rfl (by decide +kernel) ⟨Nat.le_of_ble_eq_true rfl, Nat.le_of_ble_eq_true rfl⟩) hK hN hP hD hS hA rfl rfl rfl hl.1 rfl (Nat.le_of_ble_eq_true rfl) dX9_meet_45 ⟨Nat.le_of_ble_eq_true rfl, Nat.le_of_ble_eq_true rfl⟩ (fun u r_30 H locs hw hP hD hS => ?_)
        obtain ⟨g_31, g_32, g_33, g_34⟩ := u
        have hL_35 : LOK cy g_31 g_32 := hw
        have hs_36 : ∀ c, c ∈ (Y ++ [laC r_19 x0 g_22 g_23]) → c ∈ ((Y ++ [laC r_19 x0 g_22 g_23]) ++ [laC r_30 x1 g_33 g_34]) := fun c h => List.mem_append_left _ h
        have hi_37 : chO ((Y ++ [laC r_19 x0 g_22 g_23]) ++ [laC r_30 x1 g_33 g_34]) (O 7) := chO_mono hs_36 hi_26
        have hi_38 : layO ((Y ++ [laC r_19 x0 g_22 g_23]) ++ [laC r_30 x1 g_33 g_34]) (O 8) := layO_mono hs_36 hi_27
        have hi_39 : ∀ i, i < 20 → pasO ((Y ++ [laC r_19 x0 g_22 g_23]) ++ [laC r_30 x1 g_33 g_34]) ((RO 2) i) := pas_mono hs_36 hi_28
        have hmono_40 : ∀ c, c ∈ Y → c ∈ ((Y ++ [laC r_19 x0 g_22 g_23]) ++ [laC r_30 x1 g_33 g_34]) := fun c h => hs_36 c (hmono_29 c h)
        have hP : va_P D vwCl (CT cy a J (va_up (va_up I 10 (I 10)) 99 (I 99)) (va_up (va_up O 5 g_31) 100 (O 100)) (va_up (va_up (va_up R 4 (R 4)) 5 (R 5)) 6 (R 6)) RO (g_32 ++ ((Y ++ [laC r_19 x0 g_22 g_23]) ++ [laC r_30 x1 g_33 g_34]))) H := hP
        have hD : va_D A (CT cy a J (va_up (va_up I 10 (I 10)) 99 (I 99)) (va_up (va_up O 5 g_31) 100 (O 100)) (va_up (va_up (va_up R 4 (R 4)) 5 (R 5)) 6 (R 6)) RO (g_32 ++ ((Y ++ [laC r_19 x0 g_22 g_23]) ++ [laC r_30 x1 g_33 g_34]))) := hD
        refine kM_v (As := [.ref r_19, .ref r_30]) (rest := []) (q0 := 0) ⟨hx, hb, hml, hown, hts⟩ (t_X9_measureBoth l D cy a _ J (va_up (va_up I 10 (I 10)) 99 (I 99)) (va_up (va_up O 5 g_31) 100 (O 100)) (va_up (va_up (va_up R 4 (R 4)) 5 (R 5)) 6 (R 6)) RO g_32 ((Y ++ [laC r_19 x0 g_22 g_23]) ++ [laC r_30 x1 g_33 g_34]) r_19 x0 g_22 g_23 (hs_36 _ mem_last) r_30 x1 g_33 g_34 mem_last hQ  ) (cwV 2 hts gX9_meet_X9_measureBoth rfl rfl rfl (by decide +kernel) ⟨Nat.le_of_ble_eq_true rfl, Nat.le_of_ble_eq_true rfl⟩) hK hN hP hD hS hA rfl rfl rfl hl.1 rfl (Nat.le_of_ble_eq_true rfl) dX9_meet_48 ⟨Nat.le_of_ble_eq_true rfl, Nat.le_of_ble_eq_true rfl⟩ (fun u H locs hw hP hD hS => ?_)
        obtain ⟨w_42, w_43, w_44, w_45, w_46, hp_47, rfl⟩ := hw
        have hP : va_P D vwCl (CT cy a J (va_up (va_up I 10 (I 10)) 99 w_42) (va_up (va_up O 5 g_31) 100 w_43) (va_up (va_up (va_up R 4 w_44) 5 w_45) 6 w_46) RO (g_32 ++ ((Y ++ [laC r_19 x0 g_22 g_23]) ++ [laC r_30 x1 g_33 g_34]))) H := hP
        have hD : va_D A (CT cy a J (va_up (va_up I 10 (I 10)) 99 w_42) (va_up (va_up O 5 g_31) 100 w_43) (va_up (va_up (va_up R 4 w_44) 5 w_45) 6 w_46) RO (g_32 ++ ((Y ++ [laC r_19 x0 g_22 g_23]) ++ [laC r_30 x1 g_33 g_34]))) := hD
        refine lv_aload_n hx hb dX9_meet_51 rfl (lv_at hl 0 rfl) ?_
        refine va_get (D := D) (ci := 8) (v := .ref (a 3)) (C := RX9) (T := TX9) (N := 11) hx hb hts hi9 hown hK hP 0 rfl rfl 2 (by decide) hw1 (fun _ h9 => h9) rfl dX9_meet_52 ?_
        refine lv_iload_n hx hb dX9_meet_55 rfl (lv_at hl 3 rfl) ?_
        refine kM_v (As := [.int (bI x2)]) (rest := []) (q0 := 3) ⟨hx, hb, hml, hown, hts⟩ (t_X2_mix l D cy a _ J (va_up (va_up I 10 (I 10)) 99 w_42) (va_up (va_up O 5 g_31) 100 w_43) (va_up (va_up (va_up R 4 w_44) 5 w_45) 6 w_46) RO g_32 ((Y ++ [laC r_19 x0 g_22 g_23]) ++ [laC r_30 x1 g_33 g_34]) x2   ) (cwV 1 hts gX9_meet_X2_mix rfl rfl rfl (by decide +kernel) ⟨Nat.le_of_ble_eq_true rfl, Nat.le_of_ble_eq_true rfl⟩) hK hN hP hD hS hA rfl rfl rfl hl.1 rfl (Nat.le_of_ble_eq_true rfl) dX9_meet_56 ⟨Nat.le_of_ble_eq_true rfl, Nat.le_of_ble_eq_true rfl⟩ (fun u H locs hw hP hD hS => ?_)
        obtain ⟨w_49, -, rfl⟩ := hw
        have hP : va_P D vwCl (CT cy a J (va_up (va_up I 10 (I 10)) 99 w_42) (va_up (va_up O 5 g_31) 100 w_43) (va_up (va_up (va_up R 4 w_49) 5 w_45) 6 w_46) RO (g_32 ++ ((Y ++ [laC r_19 x0 g_22 g_23]) ++ [laC r_30 x1 g_33 g_34]))) H := hP
        have hD : va_D A (CT cy a J (va_up (va_up I 10 (I 10)) 99 w_42) (va_up (va_up O 5 g_31) 100 w_43) (va_up (va_up (va_up R 4 w_49) 5 w_45) 6 w_46) RO (g_32 ++ ((Y ++ [laC r_19 x0 g_22 g_23]) ++ [laC r_30 x1 g_33 g_34]))) := hD
        refine lv_aload_n hx hb dX9_meet_59 rfl (lv_at hl 0 rfl) ?_
        refine kM_r (As := []) (rest := []) (q0 := 0) ⟨hx, hb, hml, hown, hts⟩ (t_X9_knownLayings l D cy a _ J (va_up (va_up I 10 (I 10)) 99 w_42) (va_up (va_up O 5 g_31) 100 w_43) (va_up (va_up (va_up R 4 w_49) 5 w_45) 6 w_46) RO g_32 ((Y ++ [laC r_19 x0 g_22 g_23]) ++ [laC r_30 x1 g_33 g_34])   ⟨hM.1, hi_37, hi_38, hi_39, hM.2.2.2.2.1, hM.2.2.2.2.2.1, hM.2.2.2.2.2.2.1, hM.2.2.2.2.2.2.2.1, hRO0, hRO1, hRO2, hRO3⟩ hL_35) (cwV 0 hts gX9_meet_X9_knownLayings rfl rfl rfl (by decide +kernel) ⟨Nat.le_of_ble_eq_true rfl, Nat.le_of_ble_eq_true rfl⟩) hK hN hP hD hS hA rfl rfl rfl hl.1 rfl (Nat.le_of_ble_eq_true rfl) dX9_meet_60 ⟨Nat.le_of_ble_eq_true rfl, Nat.le_of_ble_eq_true rfl⟩ (fun u r_50 H locs hw hP hD hS => ?_)
        obtain ⟨g_51, g_52, g_53, g_54, g_55, g_56⟩ := u
        have hkn_57 : isB g_54 := hw.1
        have htb_58 : g_54 = 1 → tabF (bfx g_53) g_55 0 := hw.2
        have hP : va_P D vwCl (CT cy a J (va_up (va_up I 10 (I 10)) 99 w_42) (va_up (va_up O 5 (some r_50)) 100 w_43) (va_up (va_up (va_up R 4 w_49) 5 w_45) 6 w_46) RO ([(r_50, .inr (3, [.ref g_51, .ref g_52, .long g_53, .int g_54])), (g_51, .inl (cy 0, 16640, .inl g_55)), (g_52, .inl (cy 0, 512, .inl g_56))] ++ ((Y ++ [laC r_19 x0 g_22 g_23]) ++ [laC r_30 x1 g_33 g_34]))) H := hP
        have hD : va_D A (CT cy a J (va_up (va_up I 10 (I 10)) 99 w_42) (va_up (va_up O 5 (some r_50)) 100 w_43) (va_up (va_up (va_up R 4 w_49) 5 w_45) 6 w_46) RO ([(r_50, .inr (3, [.ref g_51, .ref g_52, .long g_53, .int g_54])), (g_51, .inl (cy 0, 16640, .inl g_55)), (g_52, .inl (cy 0, 512, .inl g_56))] ++ ((Y ++ [laC r_19 x0 g_22 g_23]) ++ [laC r_30 x1 g_33 g_34]))) := hD
        refine lv_aload_n hx hb dX9_meet_63 rfl (lv_at hl 0 rfl) ?_
        refine va_get (D := D) (ci := 8) (v := .ref (a 3)) (C := RX9) (T := TX9) (N := 11) hx hb hts hi9 hown hK hP 0 rfl rfl 2 (by decide) hw1 (fun _ h9 => h9) rfl dX9_meet_64 ?_
        refine lv_aload_n hx hb dX9_meet_67 rfl (lv_at hl 0 rfl) ?_
        refine va_get (D := D) (ci := 8) (v := .long (J 6)) (C := RX9) (T := TX9) (N := 11) hx hb hts hi9 hown hK hP 0 rfl rfl 6 (by decide) hw2 (fun _ h9 => h9) rfl dX9_meet_68 ?_
        refine kRa_l (As := [.long (J 6)]) (rest := [.ref r_50]) (q0 := 3) ⟨hx, hb, hml, hown, hts⟩ (t_X2_acrossStones l D cy a _ J (va_up (va_up I 10 (I 10)) 99 w_42) (va_up (va_up O 5 (some r_50)) 100 w_43) (va_up (va_up (va_up R 4 w_49) 5 w_45) 6 w_46) RO ([(r_50, .inr (3, [.ref g_51, .ref g_52, .long g_53, .int g_54])), (g_51, .inl (cy 0, 16640, .inl g_55)), (g_52, .inl (cy 0, 512, .inl g_56))]) ((Y ++ [laC r_19 x0 g_22 g_23]) ++ [laC r_30 x1 g_33 g_34]) (J 6)  ) (cwV 1 hts gX9_meet_X2_acrossStones rfl rfl rfl (by decide +kernel) ⟨Nat.le_of_ble_eq_true rfl, Nat.le_of_ble_eq_true rfl⟩) hK hN hP hD rfl rfl rfl hl.1 rfl (Nat.le_of_ble_eq_true rfl) dX9_meet_71 ⟨Nat.le_of_ble_eq_true rfl, Nat.le_of_ble_eq_true rfl⟩ (fun r_59 hr_60 => ?_)
        refine kRa_i (As := [.long r_59]) (rest := []) (q0 := 20) ⟨hx, hb, hml, hown, hts⟩ (t_X4_numberOf l D cy a _ J (va_up (va_up I 10 (I 10)) 99 w_42) (va_up (va_up O 5 (some r_50)) 100 w_43) (va_up (va_up (va_up R 4 w_49) 5 w_45) 6 w_46) RO r_50 g_51 g_52 g_53 g_54 g_55 g_56 hkn_57 ((Y ++ [laC r_19 x0 g_22 g_23]) ++ [laC r_30 x1 g_33 g_34]) r_59  ) (cwV 1 hts gX9_meet_X4_numberOf rfl rfl rfl (by decide +kernel) ⟨Nat.le_of_ble_eq_true rfl, Nat.le_of_ble_eq_true rfl⟩) hK hN hP hD rfl rfl rfl hl.1 rfl (Nat.le_of_ble_eq_true rfl) dX9_meet_74 ⟨Nat.le_of_ble_eq_true rfl, Nat.le_of_ble_eq_true rfl⟩ (fun r_61 hr_62 => ?_)
        exact wret_i hx hb hr hlocks (J, (va_up (va_up I 10 (I 10)) 99 w_42), (va_up (va_up O 5 (some r_50)) 100 w_43), (va_up (va_up (va_up R 4 w_49) 5 w_45) 6 w_46), RO, [(r_50, .inr (3, [.ref g_51, .ref g_52, .long g_53, .int g_54])), (g_51, .inl (cy 0, 16640, .inl g_55)), (g_52, .inl (cy 0, 512, .inl g_56))], (Y ++ [laC r_19 x0 g_22 g_23]) ++ [laC r_30 x1 g_33 g_34]) ⟨(I 10), w_42, (some r_50), w_43, w_49, w_45, w_46, ([(r_50, .inr (3, [.ref g_51, .ref g_52, .long g_53, .int g_54])), (g_51, .inl (cy 0, 16640, .inl g_55)), (g_52, .inl (cy 0, 512, .inl g_56))]), ((Y ++ [laC r_19 x0 g_22 g_23]) ++ [laC r_30 x1 g_33 g_34]), ⟨hmono_40, (Or.inr ⟨_, _, _, _, _, _, _, rfl, hkn_57, htb_58, rfl⟩), hp_47⟩, rfl⟩ hP hD hS dX9_meet_77
      · replace c_18 := bI_f c_18
        refine lv_aload_n hx hb dX9_meet_30 rfl (lv_at hl 0 rfl) ?_
        refine lv_ldc (v := (-100001)) hx hb hown hw0 dX9_meet_31 ?_
        refine kM_i (As := [.int (-100001)]) (rest := []) (q0 := 0) ⟨hx, hb, hml, hown, hts⟩ (t_X9_finding l D cy a _ J (va_up (va_up I 10 (I 10)) 99 (I 99)) (va_up (va_up O 5 w_14) 100 (O 100)) (va_up (va_up (va_up R 4 (R 4)) 5 (R 5)) 6 (R 6)) RO LL_16 Y ((-100001) : Int32)   ) (cwV 1 hts gX9_meet_X9_finding rfl rfl rfl (by decide +kernel) ⟨Nat.le_of_ble_eq_true rfl, Nat.le_of_ble_eq_true rfl⟩) hK hN hP hD hS hA rfl rfl rfl hl.1 rfl (Nat.le_of_ble_eq_true rfl) dX9_meet_33 ⟨Nat.le_of_ble_eq_true rfl, Nat.le_of_ble_eq_true rfl⟩ (fun r_63 u H locs hw hP hD hS => ?_)
        obtain ⟨w_64, rfl, rfl⟩ := hw
        have hP : va_P D vwCl (CT cy a J (va_up (va_up I 10 w_64) 99 (I 99)) (va_up (va_up O 5 w_14) 100 (O 100)) (va_up (va_up (va_up R 4 (R 4)) 5 (R 5)) 6 (R 6)) RO (LL_16 ++ Y)) H := hP
        have hD : va_D A (CT cy a J (va_up (va_up I 10 w_64) 99 (I 99)) (va_up (va_up O 5 w_14) 100 (O 100)) (va_up (va_up (va_up R 4 (R 4)) 5 (R 5)) 6 (R 6)) RO (LL_16 ++ Y)) := hD
        refine W.widen (k := 17) (n := 85786) (Nat.le_of_ble_eq_true rfl) (Nat.le_of_ble_eq_true rfl) ?_
        exact wret_i hx hb hr hlocks (J, (va_up (va_up I 10 w_64) 99 (I 99)), (va_up (va_up O 5 w_14) 100 (O 100)), (va_up (va_up (va_up R 4 (R 4)) 5 (R 5)) 6 (R 6)), RO, LL_16, Y) ⟨w_64, (I 99), w_14, (O 100), (R 4), (R 5), (R 6), LL_16, Y, ⟨(fun _ h => h), hL_17, hQ⟩, rfl⟩ hP hD hS dX9_meet_36
  · replace c_4 := bI_f c_4
    refine lv_aload_n hx hb dX9_meet_7 rfl (lv_at hl 0 rfl) ?_
    refine lv_ldc (v := (-100004)) hx hb hown hw3 dX9_meet_8 ?_
    refine kM_i (As := [.int (-100004)]) (rest := []) (q0 := 0) ⟨hx, hb, hml, hown, hts⟩ (t_X9_finding l D cy a _ J (va_up (va_up I 10 (I 10)) 99 (I 99)) (va_up (va_up O 5 (O 5)) 100 (O 100)) (va_up (va_up (va_up R 4 (R 4)) 5 (R 5)) 6 (R 6)) RO LL Y ((-100004) : Int32)   ) (cwV 1 hts gX9_meet_X9_finding rfl rfl rfl (by decide +kernel) ⟨Nat.le_of_ble_eq_true rfl, Nat.le_of_ble_eq_true rfl⟩) hK hN hP hD hS hA rfl rfl rfl hl.1 rfl (Nat.le_of_ble_eq_true rfl) dX9_meet_10 ⟨Nat.le_of_ble_eq_true rfl, Nat.le_of_ble_eq_true rfl⟩ (fun r_65 u H locs hw hP hD hS => ?_)
    obtain ⟨w_66, rfl, rfl⟩ := hw
    have hP : va_P D vwCl (CT cy a J (va_up (va_up I 10 w_66) 99 (I 99)) (va_up (va_up O 5 (O 5)) 100 (O 100)) (va_up (va_up (va_up R 4 (R 4)) 5 (R 5)) 6 (R 6)) RO (LL ++ Y)) H := hP
    have hD : va_D A (CT cy a J (va_up (va_up I 10 w_66) 99 (I 99)) (va_up (va_up O 5 (O 5)) 100 (O 100)) (va_up (va_up (va_up R 4 (R 4)) 5 (R 5)) 6 (R 6)) RO (LL ++ Y)) := hD
    refine W.widen (k := 17) (n := 85786) (Nat.le_of_ble_eq_true rfl) (Nat.le_of_ble_eq_true rfl) ?_
    exact wret_i hx hb hr hlocks (J, (va_up (va_up I 10 w_66) 99 (I 99)), (va_up (va_up O 5 (O 5)) 100 (O 100)), (va_up (va_up (va_up R 4 (R 4)) 5 (R 5)) 6 (R 6)), RO, LL, Y) ⟨w_66, (I 99), (O 5), (O 100), (R 4), (R 5), (R 6), LL, Y, ⟨(fun _ h => h), hL, hQ⟩, rfl⟩ hP hD hS dX9_meet_13
theorem dX9_lack_0 : decode cX9_lack 0 = .ok (.aload_n 0, 1) := by decide +kernel
theorem dX9_lack_1 : decode cX9_lack 1 = .ok (.getfield 38, 3) := by decide +kernel
theorem dX9_lack_4 : decode cX9_lack 4 = .ok (.aload_n 0, 1) := by decide +kernel
theorem dX9_lack_5 : decode cX9_lack 5 = .ok (.getfield 48, 3) := by decide +kernel
set_option maxRecDepth 20000 in
theorem ggX9_lack_X0_cover : GoodIn wsX9_lack wsX0_cover := goodIn_r _ [8, 9, 10, 11, 12, 13, 14, 15, 16, 7, 17, 18, 19, 20, 21, 22, 23, 24, 25, 26, 27, 28, 29, 30, 31, 32, 33, 34, 35, 36, 37, 38, 39, 40, 41, 42, 43, 44, 45, 46, 47, 48, 49, 50, 51, 52, 53, 72, 73, 74, 75, 76, 77, 78] rfl (by decide +kernel)
set_option maxRecDepth 20000 in
theorem gX9_lack_X0_cover : GoodIn wsX9_lack (wsV RX9 270 RX0 yX0_cover wsX0_cover) := goodIn_app (goodIn_r _ [4, 5, 6, 7] rfl (by decide +kernel)) ggX9_lack_X0_cover
theorem dX9_lack_8 : decode cX9_lack 8 = .ok (.invokevirtual 270, 3) := by decide +kernel
theorem dX9_lack_11 : decode cX9_lack 11 = .ok (.aload_n 0, 1) := by decide +kernel
theorem dX9_lack_12 : decode cX9_lack 12 = .ok (.getfield 38, 3) := by decide +kernel
theorem dX9_lack_15 : decode cX9_lack 15 = .ok (.getfield 273, 3) := by decide +kernel
set_option maxRecDepth 20000 in
theorem ggX9_lack_J13_bitCount_95d88 : GoodIn wsX9_lack wsJ13_bitCount_95d88 := goodIn_r _ [57, 58, 59, 60] rfl (by decide +kernel)
set_option maxRecDepth 20000 in
theorem gX9_lack_J13_bitCount_95d88 : GoodIn wsX9_lack (va_wsS RX9 74 yJ13_bitCount_95d88 wsJ13_bitCount_95d88) := goodIn_app (goodIn_of _ (by decide +kernel)) ggX9_lack_J13_bitCount_95d88
theorem dX9_lack_18 : decode cX9_lack 18 = .ok (.invokestatic 74, 3) := by decide +kernel
theorem dX9_lack_21 : decode cX9_lack 21 = .ok (.ireturn, 1) := by decide +kernel
set_option maxRecDepth 20000 in
theorem ihX9_lack_0 : ∀ w ∈ u_ws RX0 TX0 7, w ∈ wsX9_lack := fun _ h => List.mem_cons_of_mem _ (List.mem_append_right _ h)
set_option maxRecDepth 20000 in
theorem ihX9_lack_9 : ∀ w ∈ u_ws RX9 TX9 11, w ∈ wsX9_lack := fun _ h => List.mem_cons_of_mem _ (List.mem_append_left _ (List.mem_append_right _ h))
set_option maxHeartbeats 4000000 in
set_option maxRecDepth 100000 in
theorem t_X9_lack (l : Launch) (D : va_G) (cy : Nat → ClassId) (a : Nat → Nat) (sz : Nat) (J : Nat → Int64) (I : Nat → Int32) (O : Nat → Option Nat) (R : Nat → Nat → Int32) (RO : Nat → Nat → Option Nat) (LL : va_W) (Y : va_W)  (hQ : Q64 (R 11)) (hF : Q64 (R 10)) : Met l yX9_lack wsX9_lack ({ frames := 5, cells := 0, slots := 0, locals := 118 }) (va_Pc [.ref (a 0)] (PW D cy sz (CT cy a J I O R RO (LL ++ Y)))) (va_Qi (fun r (u : TS) => ∃ (w0 : Int64), ∃ (w1 : Int64), ∃ (w2 : Int64), ∃ (w3 : Int32), ∃ (w4 : Nat → Int32), ∃ (w5 : Nat → Int32), ∃ (w6 : Nat → Int32), ((Q64 w6) ∧ (Q64 w5)) ∧ u = ((va_up (va_up (va_up J 260 w0) 261 w1) 262 w2), (va_up I 259 w3), O, (va_up (va_up (va_up R 9 w4) 10 w5) 11 w6), RO, LL, Y)) (BW D (va_A (CT cy a J I O R RO (LL ++ Y)) sz) (CTu cy a)) (va_A (CT cy a J I O R RO (LL ++ Y)) sz)) 0 0 (va_A (CT cy a J I O R RO (LL ++ Y)) sz) := by
  refine Met.ofW (cc := cX9_lack) (maxL := 1) (ret := (some .int)) (by decide) rfl ?_
  intro p e s m args below meth c s₁ B hml hv
  obtain ⟨rfl, rfl, hP, hK, hN, hD0⟩ := hv
  have hx := B.exec
  have hb := B.bytes
  have hr := B.returns
  have hts := atoms_spec (ws := wsX9_lack) B.pre
  have hown : s.vm.findClass RX9 = some m.cls := findClass_of_methodNamed B.named
  have hlocks := B.notSynchronized
  have hw0 := hts (.fieldLink RX9 38 "ParquetLayer" "covering" "LParquetLayer$Covering;") (by decide +kernel)
  have hw1 := hts (.fieldLink RX9 48 "ParquetLayer" "fields" "J") (by decide +kernel)
  have hw2 := hts (.fieldLink RX9 273 "ParquetLayer$Covering" "left" "J") (by decide +kernel)
  have hi0 := ihX9_lack_0
  have hi9 := ihX9_lack_9
  have hD := hD0.self (sz := s.heap.size)
  generalize hAe : va_A (CT cy a J I O R RO (LL ++ Y)) s.heap.size = A at hD ⊢
  have hA : ∀ q : Nat, s.heap.size ≤ q → A q := fun q h => by rw [← hAe]; exact Or.inr h
  have hS : va_S A s.heap s.heap [] := va_S.rf
  have hl := lv_entry ([.ref (a 0)]) (n := 1) (Nat.le_of_ble_eq_true rfl)
  rw [lg_entry_eq]
  generalize (lg_sl ([.ref (a 0)]) ++ List.replicate (1 - (lg_sl ([.ref (a 0)])).length) Slot.unset).toArray = ls at hl ⊢
  have hl : lv_has ls 1 [(0, .ref (a 0))] := hl
  have hP : va_P D vwCl (CT cy a (va_up (va_up (va_up J 260 (J 260)) 261 (J 261)) 262 (J 262)) (va_up I 259 (I 259)) O (va_up (va_up (va_up R 9 (R 9)) 10 (R 10)) 11 (R 11)) RO (LL ++ Y)) s.heap := hP
  have hD : va_D A (CT cy a (va_up (va_up (va_up J 260 (J 260)) 261 (J 261)) 262 (J 262)) (va_up I 259 (I 259)) O (va_up (va_up (va_up R 9 (R 9)) 10 (R 10)) 11 (R 11)) RO (LL ++ Y)) := hD
  refine lv_aload_n hx hb dX9_lack_0 rfl (lv_at hl 0 rfl) ?_
  refine va_get (D := D) (ci := 8) (v := .ref (a 8)) (C := RX9) (T := TX9) (N := 11) hx hb hts hi9 hown hK hP 0 rfl rfl 4 (by decide) hw0 (fun _ h9 => h9) rfl dX9_lack_1 ?_
  refine lv_aload_n hx hb dX9_lack_4 rfl (lv_at hl 0 rfl) ?_
  refine va_get (D := D) (ci := 8) (v := .long (J 6)) (C := RX9) (T := TX9) (N := 11) hx hb hts hi9 hown hK hP 0 rfl rfl 6 (by decide) hw1 (fun _ h9 => h9) rfl dX9_lack_5 ?_
  refine kM_v (As := [.long (J 6)]) (rest := []) (q0 := 8) ⟨hx, hb, hml, hown, hts⟩ (t_X0_cover l D cy a _ (va_up (va_up (va_up J 260 (J 260)) 261 (J 261)) 262 (J 262)) (va_up I 259 (I 259)) O (va_up (va_up (va_up R 9 (R 9)) 10 (R 10)) 11 (R 11)) RO LL Y (J 6) hQ hF  ) (cwV 1 hts gX9_lack_X0_cover rfl rfl rfl (by decide +kernel) ⟨Nat.le_of_ble_eq_true rfl, Nat.le_of_ble_eq_true rfl⟩) hK hN hP hD hS hA rfl rfl rfl hl.1 rfl (Nat.le_of_ble_eq_true rfl) dX9_lack_8 ⟨Nat.le_of_ble_eq_true rfl, Nat.le_of_ble_eq_true rfl⟩ (fun u H locs hw hP hD hS => ?_)
  obtain ⟨w_2, w_3, w_4, w_5, w_6, w_7, w_8, ⟨hp_9, hp_10⟩, rfl⟩ := hw
  have hP : va_P D vwCl (CT cy a (va_up (va_up (va_up J 260 w_2) 261 w_3) 262 w_4) (va_up I 259 w_5) O (va_up (va_up (va_up R 9 w_6) 10 w_7) 11 w_8) RO (LL ++ Y)) H := hP
  have hD : va_D A (CT cy a (va_up (va_up (va_up J 260 w_2) 261 w_3) 262 w_4) (va_up I 259 w_5) O (va_up (va_up (va_up R 9 w_6) 10 w_7) 11 w_8) RO (LL ++ Y)) := hD
  refine lv_aload_n hx hb dX9_lack_11 rfl (lv_at hl 0 rfl) ?_
  refine va_get (D := D) (ci := 8) (v := .ref (a 8)) (C := RX9) (T := TX9) (N := 11) hx hb hts hi9 hown hK hP 0 rfl rfl 4 (by decide) hw0 (fun _ h9 => h9) rfl dX9_lack_12 ?_
  refine va_get (D := D) (ci := 0) (v := .long w_3) (C := RX0) (T := TX0) (N := 7) hx hb hts hi0 hown hK hP 8 rfl rfl 5 (by decide) hw2 (fun _ h9 => h9) rfl dX9_lack_15 ?_
  refine kS_i (As := [.long w_3]) (rest := []) ⟨hx, hb, hml, hown, hts⟩ (c_J13_bitCount_95d88 l w_3) (va_cwS 1 hts gX9_lack_J13_bitCount_95d88 rfl rfl rfl (by decide +kernel) ⟨Nat.le_of_ble_eq_true rfl, Nat.le_of_ble_eq_true rfl⟩) rfl hl.1 rfl (Nat.le_of_ble_eq_true rfl) dX9_lack_18 ⟨Nat.le_of_ble_eq_true rfl, Nat.le_of_ble_eq_true rfl⟩ ?_
  exact wret_i hx hb hr hlocks ((va_up (va_up (va_up J 260 w_2) 261 w_3) 262 w_4), (va_up I 259 w_5), O, (va_up (va_up (va_up R 9 w_6) 10 w_7) 11 w_8), RO, LL, Y) ⟨w_2, w_3, w_4, w_5, w_6, w_7, w_8, ⟨hp_9, hp_10⟩, rfl⟩ hP hD hS dX9_lack_21
theorem dX9_lacking_0 : decode cX9_lacking 0 = .ok (.iload_n 1, 1) := by decide +kernel
set_option maxRecDepth 20000 in
theorem ggX9_lacking_X1_isField : GoodIn wsX9_lacking wsX1_isField := goodIn_r _ [8] rfl (by decide +kernel)
set_option maxRecDepth 20000 in
theorem gX9_lacking_X1_isField : GoodIn wsX9_lacking (va_wsS RX9 60 yX1_isField wsX1_isField) := goodIn_app (goodIn_r _ [5, 6, 7] rfl (by decide +kernel)) ggX9_lacking_X1_isField
theorem dX9_lacking_1 : decode cX9_lacking 1 = .ok (.invokestatic 60, 3) := by decide +kernel
theorem dX9_lacking_4 : decode cX9_lacking 4 = .ok (.ifCond .ne 10, 3) := by decide +kernel
theorem dX9_lacking_14 : decode cX9_lacking 14 = .ok (.aload_n 0, 1) := by decide +kernel
theorem dX9_lacking_15 : decode cX9_lacking 15 = .ok (.getfield 38, 3) := by decide +kernel
theorem dX9_lacking_18 : decode cX9_lacking 18 = .ok (.aload_n 0, 1) := by decide +kernel
theorem dX9_lacking_19 : decode cX9_lacking 19 = .ok (.getfield 48, 3) := by decide +kernel
set_option maxRecDepth 20000 in
theorem ggX9_lacking_X0_cover : GoodIn wsX9_lacking wsX0_cover := goodIn_r _ [19, 20, 21, 22, 23, 24, 25, 26, 27, 18, 28, 29, 30, 31, 32, 33, 34, 35, 36, 37, 38, 39, 40, 41, 42, 43, 44, 45, 46, 47, 48, 49, 7, 50, 51, 52, 53, 54, 55, 56, 57, 58, 59, 60, 61, 62, 63, 79, 80, 81, 82, 83, 84, 85] rfl (by decide +kernel)
set_option maxRecDepth 20000 in
theorem gX9_lacking_X0_cover : GoodIn wsX9_lacking (wsV RX9 270 RX0 yX0_cover wsX0_cover) := goodIn_app (goodIn_r _ [15, 16, 17, 18] rfl (by decide +kernel)) ggX9_lacking_X0_cover
theorem dX9_lacking_22 : decode cX9_lacking 22 = .ok (.invokevirtual 270, 3) := by decide +kernel
theorem dX9_lacking_25 : decode cX9_lacking 25 = .ok (.aload_n 0, 1) := by decide +kernel
theorem dX9_lacking_26 : decode cX9_lacking 26 = .ok (.getfield 38, 3) := by decide +kernel
theorem dX9_lacking_29 : decode cX9_lacking 29 = .ok (.getfield 276, 3) := by decide +kernel
theorem dX9_lacking_32 : decode cX9_lacking 32 = .ok (.iload_n 1, 1) := by decide +kernel
set_option maxRecDepth 20000 in
theorem ggX9_lacking_X1_holds : GoodIn wsX9_lacking wsX1_holds := goodIn_r _ [50] rfl (by decide +kernel)
set_option maxRecDepth 20000 in
theorem gX9_lacking_X1_holds : GoodIn wsX9_lacking (va_wsS RX9 66 yX1_holds wsX1_holds) := goodIn_app (goodIn_r _ [64, 49, 7] rfl (by decide +kernel)) ggX9_lacking_X1_holds
theorem dX9_lacking_33 : decode cX9_lacking 33 = .ok (.invokestatic 66, 3) := by decide +kernel
set_option maxRecDepth 20000 in
theorem ggX9_lacking_X9_asNumber : GoodIn wsX9_lacking wsX9_asNumber := goodIn_r _ [67] rfl (by decide +kernel)
set_option maxRecDepth 20000 in
theorem gX9_lacking_X9_asNumber : GoodIn wsX9_lacking (va_wsS RX9 70 yX9_asNumber wsX9_asNumber) := goodIn_app (goodIn_r _ [65, 66, 12] rfl (by decide +kernel)) ggX9_lacking_X9_asNumber
theorem dX9_lacking_36 : decode cX9_lacking 36 = .ok (.invokestatic 70, 3) := by decide +kernel
theorem dX9_lacking_39 : decode cX9_lacking 39 = .ok (.ireturn, 1) := by decide +kernel
theorem dX9_lacking_7 : decode cX9_lacking 7 = .ok (.aload_n 0, 1) := by decide +kernel
theorem dX9_lacking_8 : decode cX9_lacking 8 = .ok (.ldc 43, 2) := by decide +kernel
set_option maxRecDepth 20000 in
theorem ggX9_lacking_X9_finding : GoodIn wsX9_lacking wsX9_finding := goodIn_r _ [13, 14, 68, 69, 70, 71, 72, 73, 74, 75, 76, 77, 78] rfl (by decide +kernel)
set_option maxRecDepth 20000 in
theorem gX9_lacking_X9_finding : GoodIn wsX9_lacking (wsV RX9 44 RX9 yX9_finding wsX9_finding) := goodIn_app (goodIn_r _ [9, 10, 11, 12] rfl (by decide +kernel)) ggX9_lacking_X9_finding
theorem dX9_lacking_10 : decode cX9_lacking 10 = .ok (.invokevirtual 44, 3) := by decide +kernel
theorem dX9_lacking_13 : decode cX9_lacking 13 = .ok (.ireturn, 1) := by decide +kernel
set_option maxRecDepth 20000 in
theorem ihX9_lacking_0 : ∀ w ∈ u_ws RX0 TX0 7, w ∈ wsX9_lacking := fun _ h => List.mem_cons_of_mem _ (List.mem_append_right _ h)
set_option maxRecDepth 20000 in
theorem ihX9_lacking_9 : ∀ w ∈ u_ws RX9 TX9 11, w ∈ wsX9_lacking := fun _ h => List.mem_cons_of_mem _ (List.mem_append_left _ (List.mem_append_right _ h))
set_option maxHeartbeats 4000000 in
set_option maxRecDepth 100000 in
theorem t_X9_lacking (l : Launch) (D : va_G) (cy : Nat → ClassId) (a : Nat → Nat) (sz : Nat) (J : Nat → Int64) (I : Nat → Int32) (O : Nat → Option Nat) (R : Nat → Nat → Int32) (RO : Nat → Nat → Option Nat) (LL : va_W) (Y : va_W) (x0 : Int32) (hQ : Q64 (R 11)) (hF : Q64 (R 10)) : Met l yX9_lacking wsX9_lacking ({ frames := 5, cells := 0, slots := 0, locals := 118 }) (va_Pc [.ref (a 0), .int x0] (PW D cy sz (CT cy a J I O R RO (LL ++ Y)))) (va_Qi (fun r (u : TS) => ∃ (w0 : Int64), ∃ (w1 : Int64), ∃ (w2 : Int64), ∃ (w3 : Int32), ∃ (w4 : Int32), ∃ (w5 : Nat → Int32), ∃ (w6 : Nat → Int32), ∃ (w7 : Nat → Int32), ((Q64 w7) ∧ (Q64 w6)) ∧ u = ((va_up (va_up (va_up J 260 w0) 261 w1) 262 w2), (va_up (va_up I 10 w3) 259 w4), O, (va_up (va_up (va_up R 9 w5) 10 w6) 11 w7), RO, LL, Y)) (BW D (va_A (CT cy a J I O R RO (LL ++ Y)) sz) (CTu cy a)) (va_A (CT cy a J I O R RO (LL ++ Y)) sz)) 0 0 (va_A (CT cy a J I O R RO (LL ++ Y)) sz) := by
  refine Met.ofW (cc := cX9_lacking) (maxL := 2) (ret := (some .int)) (by decide) rfl ?_
  intro p e s m args below meth c s₁ B hml hv
  obtain ⟨rfl, rfl, hP, hK, hN, hD0⟩ := hv
  have hx := B.exec
  have hb := B.bytes
  have hr := B.returns
  have hts := atoms_spec (ws := wsX9_lacking) B.pre
  have hown : s.vm.findClass RX9 = some m.cls := findClass_of_methodNamed B.named
  have hlocks := B.notSynchronized
  have hw0 := hts (.fieldLink RX9 38 "ParquetLayer" "covering" "LParquetLayer$Covering;") (by decide +kernel)
  have hw1 := hts (.fieldLink RX9 48 "ParquetLayer" "fields" "J") (by decide +kernel)
  have hw2 := hts (.fieldLink RX9 276 "ParquetLayer$Covering" "reached" "J") (by decide +kernel)
  have hw3 := hts (.constant RX9 43 (-100001)) (by decide +kernel)
  have hi0 := ihX9_lacking_0
  have hi9 := ihX9_lacking_9
  have hD := hD0.self (sz := s.heap.size)
  generalize hAe : va_A (CT cy a J I O R RO (LL ++ Y)) s.heap.size = A at hD ⊢
  have hA : ∀ q : Nat, s.heap.size ≤ q → A q := fun q h => by rw [← hAe]; exact Or.inr h
  have hS : va_S A s.heap s.heap [] := va_S.rf
  have hl := lv_entry ([.ref (a 0), .int x0]) (n := 2) (Nat.le_of_ble_eq_true rfl)
  rw [lg_entry_eq]
  generalize (lg_sl ([.ref (a 0), .int x0]) ++ List.replicate (2 - (lg_sl ([.ref (a 0), .int x0])).length) Slot.unset).toArray = ls at hl ⊢
  have hl : lv_has ls 2 [(0, .ref (a 0)), (1, .int x0)] := hl
  have hP : va_P D vwCl (CT cy a (va_up (va_up (va_up J 260 (J 260)) 261 (J 261)) 262 (J 262)) (va_up (va_up I 10 (I 10)) 259 (I 259)) O (va_up (va_up (va_up R 9 (R 9)) 10 (R 10)) 11 (R 11)) RO (LL ++ Y)) s.heap := hP
  have hD : va_D A (CT cy a (va_up (va_up (va_up J 260 (J 260)) 261 (J 261)) 262 (J 262)) (va_up (va_up I 10 (I 10)) 259 (I 259)) O (va_up (va_up (va_up R 9 (R 9)) 10 (R 10)) 11 (R 11)) RO (LL ++ Y)) := hD
  refine lv_iload_n hx hb dX9_lacking_0 rfl (lv_at hl 1 rfl) ?_
  refine kS_i (As := [.int x0]) (rest := []) ⟨hx, hb, hml, hown, hts⟩ (c_X1_isField l x0) (va_cwS 1 hts gX9_lacking_X1_isField rfl rfl rfl (by decide +kernel) ⟨Nat.le_of_ble_eq_true rfl, Nat.le_of_ble_eq_true rfl⟩) rfl hl.1 rfl (Nat.le_of_ble_eq_true rfl) dX9_lacking_1 ⟨Nat.le_of_ble_eq_true rfl, Nat.le_of_ble_eq_true rfl⟩ ?_
  refine lv_if_ne (tgt := 14) hx hb dX9_lacking_4 (by decide) (fun c_1 => ?_) (fun c_1 => ?_)
  · replace c_1 := bI_t c_1
    refine lv_aload_n hx hb dX9_lacking_14 rfl (lv_at hl 0 rfl) ?_
    refine va_get (D := D) (ci := 8) (v := .ref (a 8)) (C := RX9) (T := TX9) (N := 11) hx hb hts hi9 hown hK hP 0 rfl rfl 4 (by decide) hw0 (fun _ h9 => h9) rfl dX9_lacking_15 ?_
    refine lv_aload_n hx hb dX9_lacking_18 rfl (lv_at hl 0 rfl) ?_
    refine va_get (D := D) (ci := 8) (v := .long (J 6)) (C := RX9) (T := TX9) (N := 11) hx hb hts hi9 hown hK hP 0 rfl rfl 6 (by decide) hw1 (fun _ h9 => h9) rfl dX9_lacking_19 ?_
    refine kM_v (As := [.long (J 6)]) (rest := []) (q0 := 8) ⟨hx, hb, hml, hown, hts⟩ (t_X0_cover l D cy a _ (va_up (va_up (va_up J 260 (J 260)) 261 (J 261)) 262 (J 262)) (va_up (va_up I 10 (I 10)) 259 (I 259)) O (va_up (va_up (va_up R 9 (R 9)) 10 (R 10)) 11 (R 11)) RO LL Y (J 6) hQ hF  ) (cwV 1 hts gX9_lacking_X0_cover rfl rfl rfl (by decide +kernel) ⟨Nat.le_of_ble_eq_true rfl, Nat.le_of_ble_eq_true rfl⟩) hK hN hP hD hS hA rfl rfl rfl hl.1 rfl (Nat.le_of_ble_eq_true rfl) dX9_lacking_22 ⟨Nat.le_of_ble_eq_true rfl, Nat.le_of_ble_eq_true rfl⟩ (fun u H locs hw hP hD hS => ?_)
    obtain ⟨w_3, w_4, w_5, w_6, w_7, w_8, w_9, ⟨hp_10, hp_11⟩, rfl⟩ := hw
    have hP : va_P D vwCl (CT cy a (va_up (va_up (va_up J 260 w_3) 261 w_4) 262 w_5) (va_up (va_up I 10 (I 10)) 259 w_6) O (va_up (va_up (va_up R 9 w_7) 10 w_8) 11 w_9) RO (LL ++ Y)) H := hP
    have hD : va_D A (CT cy a (va_up (va_up (va_up J 260 w_3) 261 w_4) 262 w_5) (va_up (va_up I 10 (I 10)) 259 w_6) O (va_up (va_up (va_up R 9 w_7) 10 w_8) 11 w_9) RO (LL ++ Y)) := hD
    refine lv_aload_n hx hb dX9_lacking_25 rfl (lv_at hl 0 rfl) ?_
    refine va_get (D := D) (ci := 8) (v := .ref (a 8)) (C := RX9) (T := TX9) (N := 11) hx hb hts hi9 hown hK hP 0 rfl rfl 4 (by decide) hw0 (fun _ h9 => h9) rfl dX9_lacking_26 ?_
    refine va_get (D := D) (ci := 0) (v := .long w_5) (C := RX0) (T := TX0) (N := 7) hx hb hts hi0 hown hK hP 8 rfl rfl 6 (by decide) hw2 (fun _ h9 => h9) rfl dX9_lacking_29 ?_
    refine lv_iload_n hx hb dX9_lacking_32 rfl (lv_at hl 1 rfl) ?_
    refine kS_i (As := [.long w_5, .int x0]) (rest := []) ⟨hx, hb, hml, hown, hts⟩ (c_X1_holds l w_5 x0) (va_cwS 2 hts gX9_lacking_X1_holds rfl rfl rfl (by decide +kernel) ⟨Nat.le_of_ble_eq_true rfl, Nat.le_of_ble_eq_true rfl⟩) rfl hl.1 rfl (Nat.le_of_ble_eq_true rfl) dX9_lacking_33 ⟨Nat.le_of_ble_eq_true rfl, Nat.le_of_ble_eq_true rfl⟩ ?_
    refine kS_i (As := [.int (bI (g_holds w_5 x0))]) (rest := []) ⟨hx, hb, hml, hown, hts⟩ (c_X9_asNumber l (g_holds w_5 x0)) (va_cwS 1 hts gX9_lacking_X9_asNumber rfl rfl rfl (by decide +kernel) ⟨Nat.le_of_ble_eq_true rfl, Nat.le_of_ble_eq_true rfl⟩) rfl hl.1 rfl (Nat.le_of_ble_eq_true rfl) dX9_lacking_36 ⟨Nat.le_of_ble_eq_true rfl, Nat.le_of_ble_eq_true rfl⟩ ?_
    exact wret_i hx hb hr hlocks ((va_up (va_up (va_up J 260 w_3) 261 w_4) 262 w_5), (va_up (va_up I 10 (I 10)) 259 w_6), O, (va_up (va_up (va_up R 9 w_7) 10 w_8) 11 w_9), RO, LL, Y) ⟨w_3, w_4, w_5, (I 10), w_6, w_7, w_8, w_9, ⟨hp_10, hp_11⟩, rfl⟩ hP hD hS dX9_lacking_39
  · replace c_1 := bI_f c_1
    refine lv_aload_n hx hb dX9_lacking_7 rfl (lv_at hl 0 rfl) ?_
    refine lv_ldc (v := (-100001)) hx hb hown hw3 dX9_lacking_8 ?_
    refine kM_i (As := [.int (-100001)]) (rest := []) (q0 := 0) ⟨hx, hb, hml, hown, hts⟩ (t_X9_finding l D cy a _ (va_up (va_up (va_up J 260 (J 260)) 261 (J 261)) 262 (J 262)) (va_up (va_up I 10 (I 10)) 259 (I 259)) O (va_up (va_up (va_up R 9 (R 9)) 10 (R 10)) 11 (R 11)) RO LL Y ((-100001) : Int32)   ) (cwV 1 hts gX9_lacking_X9_finding rfl rfl rfl (by decide +kernel) ⟨Nat.le_of_ble_eq_true rfl, Nat.le_of_ble_eq_true rfl⟩) hK hN hP hD hS hA rfl rfl rfl hl.1 rfl (Nat.le_of_ble_eq_true rfl) dX9_lacking_10 ⟨Nat.le_of_ble_eq_true rfl, Nat.le_of_ble_eq_true rfl⟩ (fun r_12 u H locs hw hP hD hS => ?_)
    obtain ⟨w_13, rfl, rfl⟩ := hw
    have hP : va_P D vwCl (CT cy a (va_up (va_up (va_up J 260 (J 260)) 261 (J 261)) 262 (J 262)) (va_up (va_up I 10 w_13) 259 (I 259)) O (va_up (va_up (va_up R 9 (R 9)) 10 (R 10)) 11 (R 11)) RO (LL ++ Y)) H := hP
    have hD : va_D A (CT cy a (va_up (va_up (va_up J 260 (J 260)) 261 (J 261)) 262 (J 262)) (va_up (va_up I 10 w_13) 259 (I 259)) O (va_up (va_up (va_up R 9 (R 9)) 10 (R 10)) 11 (R 11)) RO (LL ++ Y)) := hD
    exact wret_i hx hb hr hlocks ((va_up (va_up (va_up J 260 (J 260)) 261 (J 261)) 262 (J 262)), (va_up (va_up I 10 w_13) 259 (I 259)), O, (va_up (va_up (va_up R 9 (R 9)) 10 (R 10)) 11 (R 11)), RO, LL, Y) ⟨(J 260), (J 261), (J 262), w_13, (I 259), (R 9), (R 10), (R 11), ⟨hQ, hF⟩, rfl⟩ hP hD hS dX9_lacking_13
