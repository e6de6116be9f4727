theorem dX10_keep_208 : decode cX10_keep 208 = .ok (.iload_n 1, 1) := by decide +kernel
theorem dX10_keep_209 : decode cX10_keep 209 = .ok (.bipush 20, 2) := by decide +kernel
theorem dX10_keep_211 : decode cX10_keep 211 = .ok (.if_icmp .ge 29, 3) := by decide +kernel
theorem dX10_keep_240 : decode cX10_keep 240 = .ok (.aload_n 0, 1) := by decide +kernel
theorem dX10_keep_241 : decode cX10_keep 241 = .ok (.dup, 1) := by decide +kernel
theorem dX10_keep_242 : decode cX10_keep 242 = .ok (.getfield 78, 3) := by decide +kernel
theorem dX10_keep_245 : decode cX10_keep 245 = .ok (.iconst 1, 1) := by decide +kernel
theorem dX10_keep_246 : decode cX10_keep 246 = .ok (.iadd, 1) := by decide +kernel
theorem dX10_keep_247 : decode cX10_keep 247 = .ok (.putfield 78, 3) := by decide +kernel
theorem dX10_keep_250 : decode cX10_keep 250 = .ok (.aload_n 0, 1) := by decide +kernel
theorem dX10_keep_251 : decode cX10_keep 251 = .ok (.iconst 0, 1) := by decide +kernel
theorem dX10_keep_252 : decode cX10_keep 252 = .ok (.putfield 88, 3) := by decide +kernel
theorem dX10_keep_255 : decode cX10_keep 255 = .ok (.return_, 1) := by decide +kernel
theorem dX10_keep_214 : decode cX10_keep 214 = .ok (.aload_n 0, 1) := by decide +kernel
theorem dX10_keep_215 : decode cX10_keep 215 = .ok (.getfield 20, 3) := by decide +kernel
theorem dX10_keep_218 : decode cX10_keep 218 = .ok (.bipush 20, 2) := by decide +kernel
theorem dX10_keep_220 : decode cX10_keep 220 = .ok (.aload_n 0, 1) := by decide +kernel
theorem dX10_keep_221 : decode cX10_keep 221 = .ok (.getfield 78, 3) := by decide +kernel
theorem dX10_keep_224 : decode cX10_keep 224 = .ok (.imul, 1) := by decide +kernel
theorem dX10_keep_225 : decode cX10_keep 225 = .ok (.iload_n 1, 1) := by decide +kernel
theorem dX10_keep_226 : decode cX10_keep 226 = .ok (.iadd, 1) := by decide +kernel
theorem dX10_keep_227 : decode cX10_keep 227 = .ok (.aload_n 0, 1) := by decide +kernel
theorem dX10_keep_228 : decode cX10_keep 228 = .ok (.getfield 9, 3) := by decide +kernel
theorem dX10_keep_231 : decode cX10_keep 231 = .ok (.iload_n 1, 1) := by decide +kernel
theorem dX10_keep_232 : decode cX10_keep 232 = .ok (.iaload, 1) := by decide +kernel
theorem dX10_keep_233 : decode cX10_keep 233 = .ok (.iastore, 1) := by decide +kernel
theorem dX10_keep_234 : decode cX10_keep 234 = .ok (.iinc 1 1, 3) := by decide +kernel
theorem dX10_keep_237 : decode cX10_keep 237 = .ok (.goto (-29), 3) := by decide +kernel
theorem dX10_keep_89 : decode cX10_keep 89 = .ok (.iload_n 2, 1) := by decide +kernel
theorem dX10_keep_90 : decode cX10_keep 90 = .ok (.bipush 20, 2) := by decide +kernel
theorem dX10_keep_92 : decode cX10_keep 92 = .ok (.if_icmp .ge 33, 3) := by decide +kernel
theorem dX10_keep_125 : decode cX10_keep 125 = .ok (.iinc 1 1, 3) := by decide +kernel
theorem dX10_keep_128 : decode cX10_keep 128 = .ok (.goto (-117), 3) := by decide +kernel
theorem dX10_keep_95 : decode cX10_keep 95 = .ok (.aload_n 0, 1) := by decide +kernel
theorem dX10_keep_96 : decode cX10_keep 96 = .ok (.getfield 20, 3) := by decide +kernel
theorem dX10_keep_99 : decode cX10_keep 99 = .ok (.bipush 20, 2) := by decide +kernel
theorem dX10_keep_101 : decode cX10_keep 101 = .ok (.iload_n 1, 1) := by decide +kernel
theorem dX10_keep_102 : decode cX10_keep 102 = .ok (.iconst 1, 1) := by decide +kernel
theorem dX10_keep_103 : decode cX10_keep 103 = .ok (.isub, 1) := by decide +kernel
theorem dX10_keep_104 : decode cX10_keep 104 = .ok (.imul, 1) := by decide +kernel
theorem dX10_keep_105 : decode cX10_keep 105 = .ok (.iload_n 2, 1) := by decide +kernel
theorem dX10_keep_106 : decode cX10_keep 106 = .ok (.iadd, 1) := by decide +kernel
theorem dX10_keep_107 : decode cX10_keep 107 = .ok (.aload_n 0, 1) := by decide +kernel
theorem dX10_keep_108 : decode cX10_keep 108 = .ok (.getfield 20, 3) := by decide +kernel
theorem dX10_keep_111 : decode cX10_keep 111 = .ok (.bipush 20, 2) := by decide +kernel
theorem dX10_keep_113 : decode cX10_keep 113 = .ok (.iload_n 1, 1) := by decide +kernel
theorem dX10_keep_114 : decode cX10_keep 114 = .ok (.imul, 1) := by decide +kernel
theorem dX10_keep_115 : decode cX10_keep 115 = .ok (.iload_n 2, 1) := by decide +kernel
theorem dX10_keep_116 : decode cX10_keep 116 = .ok (.iadd, 1) := by decide +kernel
theorem dX10_keep_117 : decode cX10_keep 117 = .ok (.iaload, 1) := by decide +kernel
theorem dX10_keep_118 : decode cX10_keep 118 = .ok (.iastore, 1) := by decide +kernel
theorem dX10_keep_119 : decode cX10_keep 119 = .ok (.iinc 2 1, 3) := by decide +kernel
theorem dX10_keep_122 : decode cX10_keep 122 = .ok (.goto (-33), 3) := by decide +kernel
theorem dX10_keep_11 : decode cX10_keep 11 = .ok (.iload_n 1, 1) := by decide +kernel
theorem dX10_keep_12 : decode cX10_keep 12 = .ok (.bipush 20, 2) := by decide +kernel
theorem dX10_keep_14 : decode cX10_keep 14 = .ok (.if_icmp .ge 117, 3) := by decide +kernel
theorem dX10_keep_131 : decode cX10_keep 131 = .ok (.aload_n 0, 1) := by decide +kernel
theorem dX10_keep_132 : decode cX10_keep 132 = .ok (.dup, 1) := by decide +kernel
theorem dX10_keep_133 : decode cX10_keep 133 = .ok (.getfield 78, 3) := by decide +kernel
theorem dX10_keep_136 : decode cX10_keep 136 = .ok (.iconst 1, 1) := by decide +kernel
theorem dX10_keep_137 : decode cX10_keep 137 = .ok (.isub, 1) := by decide +kernel
theorem dX10_keep_138 : decode cX10_keep 138 = .ok (.putfield 78, 3) := by decide +kernel
theorem dX10_keep_141 : decode cX10_keep 141 = .ok (.aload_n 0, 1) := by decide +kernel
theorem dX10_keep_142 : decode cX10_keep 142 = .ok (.getfield 13, 3) := by decide +kernel
theorem dX10_keep_145 : decode cX10_keep 145 = .ok (.aload_n 0, 1) := by decide +kernel
theorem dX10_keep_146 : decode cX10_keep 146 = .ok (.getfield 78, 3) := by decide +kernel
theorem dX10_keep_149 : decode cX10_keep 149 = .ok (.aload_n 0, 1) := by decide +kernel
theorem dX10_keep_150 : decode cX10_keep 150 = .ok (.getfield 81, 3) := by decide +kernel
theorem dX10_keep_153 : decode cX10_keep 153 = .ok (.lastore, 1) := by decide +kernel
theorem dX10_keep_154 : decode cX10_keep 154 = .ok (.aload_n 0, 1) := by decide +kernel
theorem dX10_keep_155 : decode cX10_keep 155 = .ok (.getfield 17, 3) := by decide +kernel
theorem dX10_keep_158 : decode cX10_keep 158 = .ok (.aload_n 0, 1) := by decide +kernel
theorem dX10_keep_159 : decode cX10_keep 159 = .ok (.getfield 78, 3) := by decide +kernel
theorem dX10_keep_162 : decode cX10_keep 162 = .ok (.aload_n 0, 1) := by decide +kernel
theorem dX10_keep_163 : decode cX10_keep 163 = .ok (.getfield 85, 3) := by decide +kernel
theorem dX10_keep_166 : decode cX10_keep 166 = .ok (.iastore, 1) := by decide +kernel
theorem dX10_keep_167 : decode cX10_keep 167 = .ok (.aload_n 0, 1) := by decide +kernel
theorem dX10_keep_168 : decode cX10_keep 168 = .ok (.getfield 23, 3) := by decide +kernel
theorem dX10_keep_171 : decode cX10_keep 171 = .ok (.aload_n 0, 1) := by decide +kernel
theorem dX10_keep_172 : decode cX10_keep 172 = .ok (.getfield 78, 3) := by decide +kernel
theorem dX10_keep_175 : decode cX10_keep 175 = .ok (.aload_n 0, 1) := by decide +kernel
theorem dX10_keep_176 : decode cX10_keep 176 = .ok (.getfield 88, 3) := by decide +kernel
theorem dX10_keep_179 : decode cX10_keep 179 = .ok (.bastore, 1) := by decide +kernel
theorem dX10_keep_180 : decode cX10_keep 180 = .ok (.aload_n 0, 1) := by decide +kernel
theorem dX10_keep_181 : decode cX10_keep 181 = .ok (.getfield 27, 3) := by decide +kernel
theorem dX10_keep_184 : decode cX10_keep 184 = .ok (.aload_n 0, 1) := by decide +kernel
theorem dX10_keep_185 : decode cX10_keep 185 = .ok (.getfield 78, 3) := by decide +kernel
theorem dX10_keep_188 : decode cX10_keep 188 = .ok (.aload_n 0, 1) := by decide +kernel
theorem dX10_keep_189 : decode cX10_keep 189 = .ok (.getfield 92, 3) := by decide +kernel
theorem dX10_keep_192 : decode cX10_keep 192 = .ok (.lastore, 1) := by decide +kernel
theorem dX10_keep_193 : decode cX10_keep 193 = .ok (.aload_n 0, 1) := by decide +kernel
theorem dX10_keep_194 : decode cX10_keep 194 = .ok (.getfield 30, 3) := by decide +kernel
theorem dX10_keep_197 : decode cX10_keep 197 = .ok (.aload_n 0, 1) := by decide +kernel
theorem dX10_keep_198 : decode cX10_keep 198 = .ok (.getfield 78, 3) := by decide +kernel
theorem dX10_keep_201 : decode cX10_keep 201 = .ok (.aload_n 0, 1) := by decide +kernel
theorem dX10_keep_202 : decode cX10_keep 202 = .ok (.getfield 95, 3) := by decide +kernel
theorem dX10_keep_205 : decode cX10_keep 205 = .ok (.lastore, 1) := by decide +kernel
theorem dX10_keep_206 : decode cX10_keep 206 = .ok (.iconst 0, 1) := by decide +kernel
theorem dX10_keep_207 : decode cX10_keep 207 = .ok (.istore_n 1, 1) := by decide +kernel
theorem dX10_keep_17 : decode cX10_keep 17 = .ok (.aload_n 0, 1) := by decide +kernel
theorem dX10_keep_18 : decode cX10_keep 18 = .ok (.getfield 13, 3) := by decide +kernel
theorem dX10_keep_21 : decode cX10_keep 21 = .ok (.iload_n 1, 1) := by decide +kernel
theorem dX10_keep_22 : decode cX10_keep 22 = .ok (.iconst 1, 1) := by decide +kernel
theorem dX10_keep_23 : decode cX10_keep 23 = .ok (.isub, 1) := by decide +kernel
theorem dX10_keep_24 : decode cX10_keep 24 = .ok (.aload_n 0, 1) := by decide +kernel
theorem dX10_keep_25 : decode cX10_keep 25 = .ok (.getfield 13, 3) := by decide +kernel
theorem dX10_keep_28 : decode cX10_keep 28 = .ok (.iload_n 1, 1) := by decide +kernel
theorem dX10_keep_29 : decode cX10_keep 29 = .ok (.laload, 1) := by decide +kernel
theorem dX10_keep_30 : decode cX10_keep 30 = .ok (.lastore, 1) := by decide +kernel
theorem dX10_keep_31 : decode cX10_keep 31 = .ok (.aload_n 0, 1) := by decide +kernel
theorem dX10_keep_32 : decode cX10_keep 32 = .ok (.getfield 17, 3) := by decide +kernel
theorem dX10_keep_35 : decode cX10_keep 35 = .ok (.iload_n 1, 1) := by decide +kernel
theorem dX10_keep_36 : decode cX10_keep 36 = .ok (.iconst 1, 1) := by decide +kernel
theorem dX10_keep_37 : decode cX10_keep 37 = .ok (.isub, 1) := by decide +kernel
theorem dX10_keep_38 : decode cX10_keep 38 = .ok (.aload_n 0, 1) := by decide +kernel
theorem dX10_keep_39 : decode cX10_keep 39 = .ok (.getfield 17, 3) := by decide +kernel
theorem dX10_keep_42 : decode cX10_keep 42 = .ok (.iload_n 1, 1) := by decide +kernel
theorem dX10_keep_43 : decode cX10_keep 43 = .ok (.iaload, 1) := by decide +kernel
theorem dX10_keep_44 : decode cX10_keep 44 = .ok (.iastore, 1) := by decide +kernel
theorem dX10_keep_45 : decode cX10_keep 45 = .ok (.aload_n 0, 1) := by decide +kernel
theorem dX10_keep_46 : decode cX10_keep 46 = .ok (.getfield 23, 3) := by decide +kernel
theorem dX10_keep_49 : decode cX10_keep 49 = .ok (.iload_n 1, 1) := by decide +kernel
theorem dX10_keep_50 : decode cX10_keep 50 = .ok (.iconst 1, 1) := by decide +kernel
theorem dX10_keep_51 : decode cX10_keep 51 = .ok (.isub, 1) := by decide +kernel
theorem dX10_keep_52 : decode cX10_keep 52 = .ok (.aload_n 0, 1) := by decide +kernel
theorem dX10_keep_53 : decode cX10_keep 53 = .ok (.getfield 23, 3) := by decide +kernel
theorem dX10_keep_56 : decode cX10_keep 56 = .ok (.iload_n 1, 1) := by decide +kernel
theorem dX10_keep_57 : decode cX10_keep 57 = .ok (.baload, 1) := by decide +kernel
theorem dX10_keep_58 : decode cX10_keep 58 = .ok (.bastore, 1) := by decide +kernel
theorem dX10_keep_59 : decode cX10_keep 59 = .ok (.aload_n 0, 1) := by decide +kernel
theorem dX10_keep_60 : decode cX10_keep 60 = .ok (.getfield 27, 3) := by decide +kernel
theorem dX10_keep_63 : decode cX10_keep 63 = .ok (.iload_n 1, 1) := by decide +kernel
theorem dX10_keep_64 : decode cX10_keep 64 = .ok (.iconst 1, 1) := by decide +kernel
theorem dX10_keep_65 : decode cX10_keep 65 = .ok (.isub, 1) := by decide +kernel
theorem dX10_keep_66 : decode cX10_keep 66 = .ok (.aload_n 0, 1) := by decide +kernel
theorem dX10_keep_67 : decode cX10_keep 67 = .ok (.getfield 27, 3) := by decide +kernel
theorem dX10_keep_70 : decode cX10_keep 70 = .ok (.iload_n 1, 1) := by decide +kernel
theorem dX10_keep_71 : decode cX10_keep 71 = .ok (.laload, 1) := by decide +kernel
theorem dX10_keep_72 : decode cX10_keep 72 = .ok (.lastore, 1) := by decide +kernel
theorem dX10_keep_73 : decode cX10_keep 73 = .ok (.aload_n 0, 1) := by decide +kernel
theorem dX10_keep_74 : decode cX10_keep 74 = .ok (.getfield 30, 3) := by decide +kernel
theorem dX10_keep_77 : decode cX10_keep 77 = .ok (.iload_n 1, 1) := by decide +kernel
theorem dX10_keep_78 : decode cX10_keep 78 = .ok (.iconst 1, 1) := by decide +kernel
theorem dX10_keep_79 : decode cX10_keep 79 = .ok (.isub, 1) := by decide +kernel
theorem dX10_keep_80 : decode cX10_keep 80 = .ok (.aload_n 0, 1) := by decide +kernel
theorem dX10_keep_81 : decode cX10_keep 81 = .ok (.getfield 30, 3) := by decide +kernel
theorem dX10_keep_84 : decode cX10_keep 84 = .ok (.iload_n 1, 1) := by decide +kernel
theorem dX10_keep_85 : decode cX10_keep 85 = .ok (.laload, 1) := by decide +kernel
theorem dX10_keep_86 : decode cX10_keep 86 = .ok (.lastore, 1) := by decide +kernel
theorem dX10_keep_87 : decode cX10_keep 87 = .ok (.iconst 0, 1) := by decide +kernel
theorem dX10_keep_88 : decode cX10_keep 88 = .ok (.istore_n 2, 1) := by decide +kernel
theorem dX10_keep_0 : decode cX10_keep 0 = .ok (.aload_n 0, 1) := by decide +kernel
theorem dX10_keep_1 : decode cX10_keep 1 = .ok (.getfield 78, 3) := by decide +kernel
theorem dX10_keep_4 : decode cX10_keep 4 = .ok (.bipush 20, 2) := by decide +kernel
theorem dX10_keep_6 : decode cX10_keep 6 = .ok (.if_icmp .ne 135, 3) := by decide +kernel
theorem dX10_keep_9 : decode cX10_keep 9 = .ok (.iconst 1, 1) := by decide +kernel
theorem dX10_keep_10 : decode cX10_keep 10 = .ok (.istore_n 1, 1) := by decide +kernel
set_option maxRecDepth 20000 in
theorem ihX10_keep_10 : ∀ w ∈ u_ws RX10 TX10 30, w ∈ wsX10_keep := fun _ h => List.mem_cons_of_mem _ (List.mem_append_right _ h)
set_option maxHeartbeats 4000000 in
set_option maxRecDepth 100000 in
theorem x_X10_keep (l : Launch) (D : va_G) (cy : Nat → ClassId) (a : Nat → Nat) (sz : Nat) (J : Nat → Int64) (I : Nat → Int32) (R : Nat → Nat → Int32) (RJ : Nat → Nat → Int64)  (fl : Int64) (S : List Int32) (P : List PE) (hRA : RMf (J 0) (I 1) (I 12) (R 1) (R 3) (R 4) (RJ 2) fl S P) (hM : MI I R) : Met l yX10_keep wsX10_keep ({ frames := 0, cells := 0, slots := 0, locals := 0 }) (va_Pc [.ref (a 0)] (PW D cy sz (MW cy a J I R RJ))) (va_Qv (fun (u : MS) => ∃ (w0 : Int32), ∃ (w1 : Int32), ∃ (w2 : Nat → Int32), ∃ (w3 : Nat → Int32), ∃ (w4 : Nat → Int32), ∃ (w5 : Nat → Int64), ∃ (w6 : Nat → Int64), ∃ (w7 : Nat → Int64), ((isB w0) ∧ (vp_in w1 21) ∧ (∀ i, i < 20 → vp_in (w2 i) 21) ∧ (∀ i, i < 20 → isB (w4 i)) ∧ (RMf (J 0) (I 1) w1 (R 1) w2 w3 w5 fl S (aKeep fl S P))) ∧ u = (J, (va_up (va_up I 3 w0) 12 w1), (va_up (va_up (va_up R 3 w2) 4 w3) 5 w4), (va_up (va_up (va_up RJ 2 w5) 6 w6) 7 w7))) (BW D (va_A (MW cy a J I R RJ) sz) (MWu cy a)) (va_A (MW cy a J I R RJ) sz)) 0 0 (va_A (MW cy a J I R RJ) sz) := by
  refine Met.ofW (cc := cX10_keep) (maxL := 3) (ret := none) (by decide) rfl ?_
  intro p e s m args below meth c s₁ B hml hv
  obtain ⟨rfl, rfl, hP, hK, hN, hD0⟩ := hv
  have hx := B.exec
  have hb := B.bytes
  have hr := B.returns
  have hts := atoms_spec (ws := wsX10_keep) B.pre
  have hown : s.vm.findClass RX10 = some m.cls := findClass_of_methodNamed B.named
  have hlocks := B.notSynchronized
  have hw0 := hts (.fieldLink RX10 78 "ParquetLayerModel" "kept" "I") (by decide +kernel)
  have hw1 := hts (.fieldLink RX10 88 "ParquetLayerModel" "isLaid" "Z") (by decide +kernel)
  have hw2 := hts (.fieldLink RX10 20 "ParquetLayerModel" "pastStone" "[I") (by decide +kernel)
  have hw3 := hts (.fieldLink RX10 9 "ParquetLayerModel" "stone" "[I") (by decide +kernel)
  have hw4 := hts (.fieldLink RX10 13 "ParquetLayerModel" "pastFloor" "[J") (by decide +kernel)
  have hw5 := hts (.fieldLink RX10 81 "ParquetLayerModel" "floor" "J") (by decide +kernel)
  have hw6 := hts (.fieldLink RX10 17 "ParquetLayerModel" "pastStones" "[I") (by decide +kernel)
  have hw7 := hts (.fieldLink RX10 85 "ParquetLayerModel" "stones" "I") (by decide +kernel)
  have hw8 := hts (.fieldLink RX10 23 "ParquetLayerModel" "pastLaid" "[Z") (by decide +kernel)
  have hw9 := hts (.fieldLink RX10 27 "ParquetLayerModel" "pastAlong" "[J") (by decide +kernel)
  have hw10 := hts (.fieldLink RX10 92 "ParquetLayerModel" "along" "J") (by decide +kernel)
  have hw11 := hts (.fieldLink RX10 30 "ParquetLayerModel" "pastAcross" "[J") (by decide +kernel)
  have hw12 := hts (.fieldLink RX10 95 "ParquetLayerModel" "across" "J") (by decide +kernel)
  have hi10 := ihX10_keep_10
  have hD := hD0.self (sz := s.heap.size)
  generalize hAe : va_A (MW cy a J I R RJ) s.heap.size = A at hD ⊢
  have hA : ∀ q : Nat, s.heap.size ≤ q → A q := fun q h => by rw [← hAe]; exact Or.inr h
  have hS : va_S A s.heap s.heap [] := va_S.rf
  have hl := lv_entry ([.ref (a 0)]) (n := 3) (Nat.le_of_ble_eq_true rfl)
  rw [lg_entry_eq]
  generalize (lg_sl ([.ref (a 0)]) ++ List.replicate (3 - (lg_sl ([.ref (a 0)])).length) Slot.unset).toArray = ls at hl ⊢
  have hl : lv_has ls 3 [(0, .ref (a 0))] := hl
  have hP : va_P D vwCl (MW cy a J (va_up (va_up I 3 (I 3)) 12 (I 12)) (va_up (va_up (va_up R 3 (R 3)) 4 (R 4)) 5 (R 5)) (va_up (va_up (va_up RJ 2 (RJ 2)) 6 (RJ 6)) 7 (RJ 7))) s.heap := hP
  have hD : va_D A (MW cy a J (va_up (va_up I 3 (I 3)) 12 (I 12)) (va_up (va_up (va_up R 3 (R 3)) 4 (R 4)) 5 (R 5)) (va_up (va_up (va_up RJ 2 (RJ 2)) 6 (RJ 6)) 7 (RJ 7))) := hD
  have lp208 : ∀ (n208 : Nat), ∀ (s8 : Nat) (m0_208 : Int32) (m1_208 : Int32) (m2_208 : Nat → Int32) (m3_208 : Nat → Int32) (m4_208 : Nat → Int32) (m5_208 : Nat → Int64) (m6_208 : Nat → Int64) (m7_208 : Nat → Int64), (s8 ≤ 20) → (isB m0_208) → (vp_in m1_208 21) → (∀ i, i < 20 → vp_in (m2_208 i) 21) → (∀ i, i < 20 → isB (m4_208 i)) → (vp_in m1_208 20) → (kpI (J 0) (I 1) (I 12) (R 1) (R 3) (R 4) (RJ 2) m1_208 m2_208 m3_208 m5_208 s8) → (20 - s8) < n208 → ∀ (H : Heap) (locs : List Loc), va_P D vwCl (MW cy a J (va_up (va_up I 3 m0_208) 12 m1_208) (va_up (va_up (va_up R 3 m2_208) 4 m3_208) 5 m4_208) (va_up (va_up (va_up RJ 2 m5_208) 6 m6_208) 7 m7_208)) H → va_D A (MW cy a J (va_up (va_up I 3 m0_208) 12 m1_208) (va_up (va_up (va_up R 3 m2_208) 4 m3_208) 5 m4_208) (va_up (va_up (va_up RJ 2 m5_208) 6 m6_208) 7 m7_208)) → va_S A s.heap H locs → ∀ (ls : Array Slot), lv_has ls 3 [(0, .ref (a 0)), (1, .int (nI s8))] → W p l e (headSpec wsX10_keep ({ frames := 0, cells := 0, slots := 0, locals := 0 })).room s m ([.ref (a 0)] : List Value).toArray below meth c H locs 0 0 (MQ below (va_Qv (fun (u : MS) => ∃ (w0 : Int32), ∃ (w1 : Int32), ∃ (w2 : Nat → Int32), ∃ (w3 : Nat → Int32), ∃ (w4 : Nat → Int32), ∃ (w5 : Nat → Int64), ∃ (w6 : Nat → Int64), ∃ (w7 : Nat → Int64), ((isB w0) ∧ (vp_in w1 21) ∧ (∀ i, i < 20 → vp_in (w2 i) 21) ∧ (∀ i, i < 20 → isB (w4 i)) ∧ (RMf (J 0) (I 1) w1 (R 1) w2 w3 w5 fl S (aKeep fl S P))) ∧ u = (J, (va_up (va_up I 3 w0) 12 w1), (va_up (va_up (va_up R 3 w2) 4 w3) 5 w4), (va_up (va_up (va_up RJ 2 w5) 6 w6) 7 w7))) (BW D A (MWu cy a)) A) ([.ref (a 0)] : List Value).toArray s 0 0 A) (F0 m 208 ls []) := by
    intro n208
    induction n208 with
    | zero => intro s8 m0_208 m1_208 m2_208 m3_208 m4_208 m5_208 m6_208 m7_208 hs8 hm_m0_208 hm_m1_208 hm_m2_208 hm_m4_208 hk3 hkp hn; exact absurd hn (Nat.not_lt_zero _)
    | succ n208 ih208 =>
      intro s8 m0_208 m1_208 m2_208 m3_208 m4_208 m5_208 m6_208 m7_208 hs8 hm_m0_208 hm_m1_208 hm_m2_208 hm_m4_208 hk3 hkp hn208 H locs hP hD hS ls hl
      refine lv_iload_n hx hb dX10_keep_208 rfl (lv_at hl 1 rfl) ?_
      refine lv_bipush (v := 20) hx hb dX10_keep_209 (by decide) ?_
      refine lv_icmp_ge (tgt := 240) hx hb dX10_keep_211 (by decide) (fun c_1 => ?_) (fun c_1 => ?_)
      · have hie8 := ctr_ge (N := 20) (by decide) hs8 c_1
        refine lv_aload_n hx hb dX10_keep_240 rfl (lv_at hl 0 rfl) ?_
        refine lv_dup hx hb dX10_keep_241 rfl ?_
        refine va_get (D := D) (ci := 9) (v := .int m1_208) (C := RX10) (T := TX10) (N := 30) hx hb hts hi10 hown hK hP 0 rfl rfl 12 (by decide) hw0 (fun _ h9 => h9) rfl dX10_keep_242 ?_
        refine lv_iconst (v := 1) hx hb dX10_keep_245 (by decide) ?_
        refine lv_iadd hx hb dX10_keep_246 ?_
        refine va_put (D := D) (ci := 9) (v := .int (m1_208 + 1)) (ty := .int) (C := RX10) (T := TX10) (N := 30) hx hb hts hi10 tyX10 tyX10_ok nmX10 hown hK hP hD hS 0 rfl rfl 12 (by decide) hw0 (fun _ h9 => h9) rfl (by decide +kernel) rfl rfl (Nat.le_of_ble_eq_true rfl) dX10_keep_247 (fun H locs hP hD hS => ?_)
        have hP : va_P D vwCl (MW cy a J (va_up (va_up I 3 m0_208) 12 (m1_208 + 1)) (va_up (va_up (va_up R 3 m2_208) 4 m3_208) 5 m4_208) (va_up (va_up (va_up RJ 2 m5_208) 6 m6_208) 7 m7_208)) H := hP
        have hD : va_D A (MW cy a J (va_up (va_up I 3 m0_208) 12 (m1_208 + 1)) (va_up (va_up (va_up R 3 m2_208) 4 m3_208) 5 m4_208) (va_up (va_up (va_up RJ 2 m5_208) 6 m6_208) 7 m7_208)) := hD
        have hi_2 : vp_in (m1_208 + 1) 21 := in_succ hk3
        refine lv_aload_n hx hb dX10_keep_250 rfl (lv_at hl 0 rfl) ?_
        refine lv_iconst (v := 0) hx hb dX10_keep_251 (by decide) ?_
        refine va_put (D := D) (ci := 9) (v := .int 0) (ty := .boolean) (C := RX10) (T := TX10) (N := 30) hx hb hts hi10 tyX10 tyX10_ok nmX10 hown hK hP hD hS 0 rfl rfl 3 (by decide) hw1 (fun _ h9 => h9) rfl (by decide +kernel) rfl rfl (Nat.le_of_ble_eq_true rfl) dX10_keep_252 (fun H locs hP hD hS => ?_)
        have hP : va_P D vwCl (MW cy a J (va_up (va_up I 3 0) 12 (m1_208 + 1)) (va_up (va_up (va_up R 3 m2_208) 4 m3_208) 5 m4_208) (va_up (va_up (va_up RJ 2 m5_208) 6 m6_208) 7 m7_208)) H := hP
        have hD : va_D A (MW cy a J (va_up (va_up I 3 0) 12 (m1_208 + 1)) (va_up (va_up (va_up R 3 m2_208) 4 m3_208) 5 m4_208) (va_up (va_up (va_up RJ 2 m5_208) 6 m6_208) 7 m7_208)) := hD
        have hi_3 : isB 0 := Or.inl rfl
        exact wret_v hx hb hr hlocks (J, (va_up (va_up I 3 0) 12 (m1_208 + 1)), (va_up (va_up (va_up R 3 m2_208) 4 m3_208) 5 m4_208), (va_up (va_up (va_up RJ 2 m5_208) 6 m6_208) 7 m7_208)) ⟨0, (m1_208 + 1), m2_208, m3_208, m4_208, m5_208, m6_208, m7_208, ⟨hi_3, hi_2, hm_m2_208, hm_m4_208, (kp_end hRA hM.2.2.2.1 hie8 hkp)⟩, rfl⟩ hP hD hS dX10_keep_255
      · have hlt := ctr_lt (N := 20) (by decide) hs8 c_1
        refine lv_aload_n hx hb dX10_keep_214 rfl (lv_at hl 0 rfl) ?_
        refine va_get (D := D) (ci := 9) (v := .ref (a 4)) (C := RX10) (T := TX10) (N := 30) hx hb hts hi10 hown hK hP 0 rfl rfl 8 (by decide) hw2 (fun _ h9 => h9) rfl dX10_keep_215 ?_
        refine lv_bipush (v := 20) hx hb dX10_keep_218 (by decide) ?_
        refine lv_aload_n hx hb dX10_keep_220 rfl (lv_at hl 0 rfl) ?_
        refine va_get (D := D) (ci := 9) (v := .int m1_208) (C := RX10) (T := TX10) (N := 30) hx hb hts hi10 hown hK hP 0 rfl rfl 12 (by decide) hw0 (fun _ h9 => h9) rfl dX10_keep_221 ?_
        refine lv_imul hx hb dX10_keep_224 ?_
        refine lv_iload_n hx hb dX10_keep_225 rfl (lv_at hl 1 rfl) ?_
        refine lv_iadd hx hb dX10_keep_226 ?_
        refine lv_aload_n hx hb dX10_keep_227 rfl (lv_at hl 0 rfl) ?_
        refine va_get (D := D) (ci := 9) (v := .ref (a 1)) (C := RX10) (T := TX10) (N := 30) hx hb hts hi10 hown hK hP 0 rfl rfl 2 (by decide) hw3 (fun _ h9 => h9) rfl dX10_keep_228 ?_
        refine lv_iload_n hx hb dX10_keep_231 rfl (lv_at hl 1 rfl) ?_
        refine va_iald hx hb hK hP 1 0 rfl rfl (vp_in_nI (by omega) (by decide)) dX10_keep_232 ?_
        refine va_iast hx hb hK hP hD hS 4 0 rfl rfl (ix20b hk3 hlt) dX10_keep_233 (fun H locs hP hD hS => ?_)
        have hP : va_P D vwCl (MW cy a J (va_up (va_up I 3 m0_208) 12 m1_208) (va_up (va_up (va_up R 3 m2_208) 4 (upd m3_208 ((20 * m1_208) + (nI s8)).toNatClampNeg ((R 1) (nI s8).toNatClampNeg))) 5 m4_208) (va_up (va_up (va_up RJ 2 m5_208) 6 m6_208) 7 m7_208)) H := hP
        have hD : va_D A (MW cy a J (va_up (va_up I 3 m0_208) 12 m1_208) (va_up (va_up (va_up R 3 m2_208) 4 (upd m3_208 ((20 * m1_208) + (nI s8)).toNatClampNeg ((R 1) (nI s8).toNatClampNeg))) 5 m4_208) (va_up (va_up (va_up RJ 2 m5_208) 6 m6_208) 7 m7_208)) := hD
        refine lv_iinc (v := nI (s8 + 1)) (lv' := [(1, .int (nI (s8 + 1))), (0, .ref (a 0))]) hx hb dX10_keep_234 hl (k := 1) rfl (nI_1 _) (by decide) rfl (fun ls hl => ?_)
        refine lv_goto (tgt := 208) hx hb dX10_keep_237 (by decide) ?_
        exact ih208 (s8 + 1) m0_208 m1_208 m2_208 (upd m3_208 ((20 * m1_208) + (nI s8)).toNatClampNeg ((R 1) (nI s8).toNatClampNeg)) m4_208 m5_208 m6_208 m7_208 (by omega) hm_m0_208 hm_m1_208 hm_m2_208 hm_m4_208 hk3 (kp_s hlt hkp) (by omega) _ _ hP hD hS ls (lv_sub hl [1, 0] rfl)
  have lp11 : ∀ (n11 : Nat), ∀ (k : Nat) (m0_11 : Int32) (m1_11 : Int32) (m2_11 : Nat → Int32) (m3_11 : Nat → Int32) (m4_11 : Nat → Int32) (m5_11 : Nat → Int64) (m6_11 : Nat → Int64) (m7_11 : Nat → Int64), (k ≤ 19) → (isB m0_11) → (vp_in m1_11 21) → (∀ i, i < 20 → vp_in (m2_11 i) 21) → (∀ i, i < 20 → isB (m4_11 i)) → (m1_11 = 20) → (I 12 = 20) → (shf 1 (RJ 2) m5_11 (k)) → (shf 1 (R 3) m2_11 (k)) → (shf 20 (R 4) m3_11 (20 * k)) → (19 - k) < n11 → ∀ (H : Heap) (locs : List Loc), va_P D vwCl (MW cy a J (va_up (va_up I 3 m0_11) 12 m1_11) (va_up (va_up (va_up R 3 m2_11) 4 m3_11) 5 m4_11) (va_up (va_up (va_up RJ 2 m5_11) 6 m6_11) 7 m7_11)) H → va_D A (MW cy a J (va_up (va_up I 3 m0_11) 12 m1_11) (va_up (va_up (va_up R 3 m2_11) 4 m3_11) 5 m4_11) (va_up (va_up (va_up RJ 2 m5_11) 6 m6_11) 7 m7_11)) → va_S A s.heap H locs → ∀ (ls : Array Slot), lv_has ls 3 [(0, .ref (a 0)), (1, .int (nI (k + 1)))] → W p l e (headSpec wsX10_keep ({ frames := 0, cells := 0, slots := 0, locals := 0 })).room s m ([.ref (a 0)] : List Value).toArray below meth c H locs 0 0 (MQ below (va_Qv (fun (u : MS) => ∃ (w0 : Int32), ∃ (w1 : Int32), ∃ (w2 : Nat → Int32), ∃ (w3 : Nat → Int32), ∃ (w4 : Nat → Int32), ∃ (w5 : Nat → Int64), ∃ (w6 : Nat → Int64), ∃ (w7 : Nat → Int64), ((isB w0) ∧ (vp_in w1 21) ∧ (∀ i, i < 20 → vp_in (w2 i) 21) ∧ (∀ i, i < 20 → isB (w4 i)) ∧ (RMf (J 0) (I 1) w1 (R 1) w2 w3 w5 fl S (aKeep fl S P))) ∧ u = (J, (va_up (va_up I 3 w0) 12 w1), (va_up (va_up (va_up R 3 w2) 4 w3) 5 w4), (va_up (va_up (va_up RJ 2 w5) 6 w6) 7 w7))) (BW D A (MWu cy a)) A) ([.ref (a 0)] : List Value).toArray s 0 0 A) (F0 m 11 ls []) := by
    intro n11
    induction n11 with
    | zero => intro k m0_11 m1_11 m2_11 m3_11 m4_11 m5_11 m6_11 m7_11 hk hm_m0_11 hm_m1_11 hm_m2_11 hm_m4_11 hk h0 h2 h3 h4 hn; exact absurd hn (Nat.not_lt_zero _)
    | succ n11 ih11 =>
      intro k m0_11 m1_11 m2_11 m3_11 m4_11 m5_11 m6_11 m7_11 hk hm_m0_11 hm_m1_11 hm_m2_11 hm_m4_11 hk h0 h2 h3 h4 hn11 H locs hP hD hS ls hl
      have lp89 : ∀ (n89 : Nat), ∀ (s9 : Nat) (m0_89 : Int32) (m1_89 : Int32) (m2_89 : Nat → Int32) (m3_89 : Nat → Int32) (m4_89 : Nat → Int32) (m5_89 : Nat → Int64) (m6_89 : Nat → Int64) (m7_89 : Nat → Int64), (s9 ≤ 20) → (isB m0_89) → (vp_in m1_89 21) → (∀ i, i < 20 → vp_in (m2_89 i) 21) → (∀ i, i < 20 → isB (m4_89 i)) → (k < 19) → (m1_89 = 20) → (shf 1 (RJ 2) m5_89 (k + 1)) → (shf 1 (R 3) m2_89 (k + 1)) → (shf 20 (R 4) m3_89 (20 * k + s9)) → (20 - s9) < n89 → ∀ (H : Heap) (locs : List Loc), va_P D vwCl (MW cy a J (va_up (va_up I 3 m0_89) 12 m1_89) (va_up (va_up (va_up R 3 m2_89) 4 m3_89) 5 m4_89) (va_up (va_up (va_up RJ 2 m5_89) 6 m6_89) 7 m7_89)) H → va_D A (MW cy a J (va_up (va_up I 3 m0_89) 12 m1_89) (va_up (va_up (va_up R 3 m2_89) 4 m3_89) 5 m4_89) (va_up (va_up (va_up RJ 2 m5_89) 6 m6_89) 7 m7_89)) → va_S A s.heap H locs → ∀ (ls : Array Slot), lv_has ls 3 [(0, .ref (a 0)), (1, .int (nI (k + 1))), (2, .int (nI s9))] → W p l e (headSpec wsX10_keep ({ frames := 0, cells := 0, slots := 0, locals := 0 })).room s m ([.ref (a 0)] : List Value).toArray below meth c H locs 0 0 (MQ below (va_Qv (fun (u : MS) => ∃ (w0 : Int32), ∃ (w1 : Int32), ∃ (w2 : Nat → Int32), ∃ (w3 : Nat → Int32), ∃ (w4 : Nat → Int32), ∃ (w5 : Nat → Int64), ∃ (w6 : Nat → Int64), ∃ (w7 : Nat → Int64), ((isB w0) ∧ (vp_in w1 21) ∧ (∀ i, i < 20 → vp_in (w2 i) 21) ∧ (∀ i, i < 20 → isB (w4 i)) ∧ (RMf (J 0) (I 1) w1 (R 1) w2 w3 w5 fl S (aKeep fl S P))) ∧ u = (J, (va_up (va_up I 3 w0) 12 w1), (va_up (va_up (va_up R 3 w2) 4 w3) 5 w4), (va_up (va_up (va_up RJ 2 w5) 6 w6) 7 w7))) (BW D A (MWu cy a)) A) ([.ref (a 0)] : List Value).toArray s 0 0 A) (F0 m 89 ls []) := by
        intro n89
        induction n89 with
        | zero => intro s9 m0_89 m1_89 m2_89 m3_89 m4_89 m5_89 m6_89 m7_89 hs9 hm_m0_89 hm_m1_89 hm_m2_89 hm_m4_89 hlk hk2 h2 h3 h4 hn; exact absurd hn (Nat.not_lt_zero _)
        | succ n89 ih89 =>
          intro s9 m0_89 m1_89 m2_89 m3_89 m4_89 m5_89 m6_89 m7_89 hs9 hm_m0_89 hm_m1_89 hm_m2_89 hm_m4_89 hlk hk2 h2 h3 h4 hn89 H locs hP hD hS ls hl
          refine lv_iload_n hx hb dX10_keep_89 rfl (lv_at hl 2 rfl) ?_
          refine lv_bipush (v := 20) hx hb dX10_keep_90 (by decide) ?_
          refine lv_icmp_ge (tgt := 125) hx hb dX10_keep_92 (by decide) (fun c_4 => ?_) (fun c_4 => ?_)
          · have hie9 := ctr_ge (N := 20) (by decide) hs9 c_4
            refine lv_iinc (v := nI ((k + 1) + 1)) (lv' := [(1, .int (nI ((k + 1) + 1))), (0, .ref (a 0)), (2, .int (nI s9))]) hx hb dX10_keep_125 hl (k := 1) rfl (nI_1 _) (by decide) rfl (fun ls hl => ?_)
            refine lv_goto (tgt := 11) hx hb dX10_keep_128 (by decide) ?_
            exact ih11 (k + 1) m0_89 m1_89 m2_89 m3_89 m4_89 m5_89 m6_89 m7_89 (by omega) hm_m0_89 hm_m1_89 hm_m2_89 hm_m4_89 hk2 h0 h2 h3 (by rw [hie9] at h4; exact h4) (by omega) _ _ hP hD hS ls (lv_sub hl [1, 0] rfl)
          · have hlt := ctr_lt (N := 20) (by decide) hs9 c_4
            refine lv_aload_n hx hb dX10_keep_95 rfl (lv_at hl 0 rfl) ?_
            refine va_get (D := D) (ci := 9) (v := .ref (a 4)) (C := RX10) (T := TX10) (N := 30) hx hb hts hi10 hown hK hP 0 rfl rfl 8 (by decide) hw2 (fun _ h9 => h9) rfl dX10_keep_96 ?_
            refine lv_bipush (v := 20) hx hb dX10_keep_99 (by decide) ?_
            refine lv_iload_n hx hb dX10_keep_101 rfl (lv_at hl 1 rfl) ?_
            refine lv_iconst (v := 1) hx hb dX10_keep_102 (by decide) ?_
            refine lv_isub hx hb dX10_keep_103 ?_
            refine wtop_i (y := nI k) (nI_s1 k) ?_
            refine lv_imul hx hb dX10_keep_104 ?_
            refine lv_iload_n hx hb dX10_keep_105 rfl (lv_at hl 2 rfl) ?_
            refine lv_iadd hx hb dX10_keep_106 ?_
            refine lv_aload_n hx hb dX10_keep_107 rfl (lv_at hl 0 rfl) ?_
            refine va_get (D := D) (ci := 9) (v := .ref (a 4)) (C := RX10) (T := TX10) (N := 30) hx hb hts hi10 hown hK hP 0 rfl rfl 8 (by decide) hw2 (fun _ h9 => h9) rfl dX10_keep_108 ?_
            refine lv_bipush (v := 20) hx hb dX10_keep_111 (by decide) ?_
            refine lv_iload_n hx hb dX10_keep_113 rfl (lv_at hl 1 rfl) ?_
            refine lv_imul hx hb dX10_keep_114 ?_
            refine lv_iload_n hx hb dX10_keep_115 rfl (lv_at hl 2 rfl) ?_
            refine lv_iadd hx hb dX10_keep_116 ?_
            refine va_iald hx hb hK hP 4 0 rfl rfl (ix20 (by omega) hlt) dX10_keep_117 ?_
            refine va_iast hx hb hK hP hD hS 4 0 rfl rfl (ix20 (by omega) hlt) dX10_keep_118 (fun H locs hP hD hS => ?_)
            have hP : va_P D vwCl (MW cy a J (va_up (va_up I 3 m0_89) 12 m1_89) (va_up (va_up (va_up R 3 m2_89) 4 (upd m3_89 ((20 * (nI k)) + (nI s9)).toNatClampNeg (m3_89 ((20 * (nI (k + 1))) + (nI s9)).toNatClampNeg))) 5 m4_89) (va_up (va_up (va_up RJ 2 m5_89) 6 m6_89) 7 m7_89)) H := hP
            have hD : va_D A (MW cy a J (va_up (va_up I 3 m0_89) 12 m1_89) (va_up (va_up (va_up R 3 m2_89) 4 (upd m3_89 ((20 * (nI k)) + (nI s9)).toNatClampNeg (m3_89 ((20 * (nI (k + 1))) + (nI s9)).toNatClampNeg))) 5 m4_89) (va_up (va_up (va_up RJ 2 m5_89) 6 m6_89) 7 m7_89)) := hD
            refine lv_iinc (v := nI (s9 + 1)) (lv' := [(2, .int (nI (s9 + 1))), (0, .ref (a 0)), (1, .int (nI (k + 1)))]) hx hb dX10_keep_119 hl (k := 2) rfl (nI_1 _) (by decide) rfl (fun ls hl => ?_)
            refine lv_goto (tgt := 89) hx hb dX10_keep_122 (by decide) ?_
            exact ih89 (s9 + 1) m0_89 m1_89 m2_89 (upd m3_89 ((20 * (nI k)) + (nI s9)).toNatClampNeg (m3_89 ((20 * (nI (k + 1))) + (nI s9)).toNatClampNeg)) m4_89 m5_89 m6_89 m7_89 (by omega) hm_m0_89 hm_m1_89 hm_m2_89 hm_m4_89 hlk hk2 h2 h3 (shf_4 hlk hlt h4) (by omega) _ _ hP hD hS ls (lv_sub hl [1, 2, 0] rfl)
      refine lv_iload_n hx hb dX10_keep_11 rfl (lv_at hl 1 rfl) ?_
      refine lv_bipush (v := 20) hx hb dX10_keep_12 (by decide) ?_
      refine lv_icmp_ge (tgt := 131) hx hb dX10_keep_14 (by decide) (fun c_5 => ?_) (fun c_5 => ?_)
      · have hie := ctr_ge (N := 20) (i := k + 1) (by decide) (by omega) c_5
        refine lv_aload_n hx hb dX10_keep_131 rfl (lv_at hl 0 rfl) ?_
        refine lv_dup hx hb dX10_keep_132 rfl ?_
        refine va_get (D := D) (ci := 9) (v := .int m1_11) (C := RX10) (T := TX10) (N := 30) hx hb hts hi10 hown hK hP 0 rfl rfl 12 (by decide) hw0 (fun _ h9 => h9) rfl dX10_keep_133 ?_
        refine lv_iconst (v := 1) hx hb dX10_keep_136 (by decide) ?_
        refine lv_isub hx hb dX10_keep_137 ?_
        refine va_put (D := D) (ci := 9) (v := .int (m1_11 - 1)) (ty := .int) (C := RX10) (T := TX10) (N := 30) hx hb hts hi10 tyX10 tyX10_ok nmX10 hown hK hP hD hS 0 rfl rfl 12 (by decide) hw0 (fun _ h9 => h9) rfl (by decide +kernel) rfl rfl (Nat.le_of_ble_eq_true rfl) dX10_keep_138 (fun H locs hP hD hS => ?_)
        have hP : va_P D vwCl (MW cy a J (va_up (va_up I 3 m0_11) 12 (m1_11 - 1)) (va_up (va_up (va_up R 3 m2_11) 4 m3_11) 5 m4_11) (va_up (va_up (va_up RJ 2 m5_11) 6 m6_11) 7 m7_11)) H := hP
        have hD : va_D A (MW cy a J (va_up (va_up I 3 m0_11) 12 (m1_11 - 1)) (va_up (va_up (va_up R 3 m2_11) 4 m3_11) 5 m4_11) (va_up (va_up (va_up RJ 2 m5_11) 6 m6_11) 7 m7_11)) := hD
        have hi_6 : vp_in (m1_11 - 1) 21 := (by rw [hk]; unfold vp_in; decide)
        refine lv_aload_n hx hb dX10_keep_141 rfl (lv_at hl 0 rfl) ?_
        refine va_get (D := D) (ci := 9) (v := .ref (a 2)) (C := RX10) (T := TX10) (N := 30) hx hb hts hi10 hown hK hP 0 rfl rfl 6 (by decide) hw4 (fun _ h9 => h9) rfl dX10_keep_142 ?_
        refine lv_aload_n hx hb dX10_keep_145 rfl (lv_at hl 0 rfl) ?_
        refine va_get (D := D) (ci := 9) (v := .int (m1_11 - 1)) (C := RX10) (T := TX10) (N := 30) hx hb hts hi10 hown hK hP 0 rfl rfl 12 (by decide) hw0 (fun _ h9 => h9) rfl dX10_keep_146 ?_
        refine lv_aload_n hx hb dX10_keep_149 rfl (lv_at hl 0 rfl) ?_
        refine va_get (D := D) (ci := 9) (v := .long (J 0)) (C := RX10) (T := TX10) (N := 30) hx hb hts hi10 hown hK hP 0 rfl rfl 0 (by decide) hw5 (fun _ h9 => h9) rfl dX10_keep_150 ?_
        refine va_last hx hb hK hP hD hS 2 1 rfl rfl (by rw [hk]; unfold vp_in; decide) dX10_keep_153 (fun H locs hP hD hS => ?_)
        have hP : va_P D vwCl (MW cy a J (va_up (va_up I 3 m0_11) 12 (m1_11 - 1)) (va_up (va_up (va_up R 3 m2_11) 4 m3_11) 5 m4_11) (va_up (va_up (va_up RJ 2 (vp_updL m5_11 (m1_11 - 1).toNatClampNeg (J 0))) 6 m6_11) 7 m7_11)) H := hP
        have hD : va_D A (MW cy a J (va_up (va_up I 3 m0_11) 12 (m1_11 - 1)) (va_up (va_up (va_up R 3 m2_11) 4 m3_11) 5 m4_11) (va_up (va_up (va_up RJ 2 (vp_updL m5_11 (m1_11 - 1).toNatClampNeg (J 0))) 6 m6_11) 7 m7_11)) := hD
        refine lv_aload_n hx hb dX10_keep_154 rfl (lv_at hl 0 rfl) ?_
        refine va_get (D := D) (ci := 9) (v := .ref (a 3)) (C := RX10) (T := TX10) (N := 30) hx hb hts hi10 hown hK hP 0 rfl rfl 7 (by decide) hw6 (fun _ h9 => h9) rfl dX10_keep_155 ?_
        refine lv_aload_n hx hb dX10_keep_158 rfl (lv_at hl 0 rfl) ?_
        refine va_get (D := D) (ci := 9) (v := .int (m1_11 - 1)) (C := RX10) (T := TX10) (N := 30) hx hb hts hi10 hown hK hP 0 rfl rfl 12 (by decide) hw0 (fun _ h9 => h9) rfl dX10_keep_159 ?_
        refine lv_aload_n hx hb dX10_keep_162 rfl (lv_at hl 0 rfl) ?_
        refine va_get (D := D) (ci := 9) (v := .int (I 1)) (C := RX10) (T := TX10) (N := 30) hx hb hts hi10 hown hK hP 0 rfl rfl 1 (by decide) hw7 (fun _ h9 => h9) rfl dX10_keep_163 ?_
        refine va_iast hx hb hK hP hD hS 3 0 rfl rfl (by rw [hk]; unfold vp_in; decide) dX10_keep_166 (fun H locs hP hD hS => ?_)
        have hP : va_P D vwCl (MW cy a J (va_up (va_up I 3 m0_11) 12 (m1_11 - 1)) (va_up (va_up (va_up R 3 (upd m2_11 (m1_11 - 1).toNatClampNeg (I 1))) 4 m3_11) 5 m4_11) (va_up (va_up (va_up RJ 2 (vp_updL m5_11 (m1_11 - 1).toNatClampNeg (J 0))) 6 m6_11) 7 m7_11)) H := hP
        have hD : va_D A (MW cy a J (va_up (va_up I 3 m0_11) 12 (m1_11 - 1)) (va_up (va_up (va_up R 3 (upd m2_11 (m1_11 - 1).toNatClampNeg (I 1))) 4 m3_11) 5 m4_11) (va_up (va_up (va_up RJ 2 (vp_updL m5_11 (m1_11 - 1).toNatClampNeg (J 0))) 6 m6_11) 7 m7_11)) := hD
        have hi_7 : ∀ i, i < 20 → vp_in ((upd m2_11 (m1_11 - 1).toNatClampNeg (I 1)) i) 21 := all21 hm_m2_11 hM.1
        refine lv_aload_n hx hb dX10_keep_167 rfl (lv_at hl 0 rfl) ?_
        refine va_get (D := D) (ci := 9) (v := .ref (a 5)) (C := RX10) (T := TX10) (N := 30) hx hb hts hi10 hown hK hP 0 rfl rfl 9 (by decide) hw8 (fun _ h9 => h9) rfl dX10_keep_168 ?_
        refine lv_aload_n hx hb dX10_keep_171 rfl (lv_at hl 0 rfl) ?_
        refine va_get (D := D) (ci := 9) (v := .int (m1_11 - 1)) (C := RX10) (T := TX10) (N := 30) hx hb hts hi10 hown hK hP 0 rfl rfl 12 (by decide) hw0 (fun _ h9 => h9) rfl dX10_keep_172 ?_
        refine lv_aload_n hx hb dX10_keep_175 rfl (lv_at hl 0 rfl) ?_
        refine va_get (D := D) (ci := 9) (v := .int m0_11) (C := RX10) (T := TX10) (N := 30) hx hb hts hi10 hown hK hP 0 rfl rfl 3 (by decide) hw1 (fun _ h9 => h9) rfl dX10_keep_176 ?_
        refine va_zast hx hb hK hP hD hS 5 2 rfl rfl (by rw [hk]; unfold vp_in; decide) dX10_keep_179 (fun H locs hP hD hS => ?_)
        have hP : va_P D vwCl (MW cy a J (va_up (va_up I 3 m0_11) 12 (m1_11 - 1)) (va_up (va_up (va_up R 3 (upd m2_11 (m1_11 - 1).toNatClampNeg (I 1))) 4 m3_11) 5 (upd m4_11 (m1_11 - 1).toNatClampNeg (vp_nar .boolean m0_11))) (va_up (va_up (va_up RJ 2 (vp_updL m5_11 (m1_11 - 1).toNatClampNeg (J 0))) 6 m6_11) 7 m7_11)) H := hP
        have hD : va_D A (MW cy a J (va_up (va_up I 3 m0_11) 12 (m1_11 - 1)) (va_up (va_up (va_up R 3 (upd m2_11 (m1_11 - 1).toNatClampNeg (I 1))) 4 m3_11) 5 (upd m4_11 (m1_11 - 1).toNatClampNeg (vp_nar .boolean m0_11))) (va_up (va_up (va_up RJ 2 (vp_updL m5_11 (m1_11 - 1).toNatClampNeg (J 0))) 6 m6_11) 7 m7_11)) := hD
        have hi_8 : ∀ i, i < 20 → isB ((upd m4_11 (m1_11 - 1).toNatClampNeg (vp_nar .boolean m0_11)) i) := all_upd hm_m4_11 (nar_B _)
        refine lv_aload_n hx hb dX10_keep_180 rfl (lv_at hl 0 rfl) ?_
        refine va_get (D := D) (ci := 9) (v := .ref (a 6)) (C := RX10) (T := TX10) (N := 30) hx hb hts hi10 hown hK hP 0 rfl rfl 10 (by decide) hw9 (fun _ h9 => h9) rfl dX10_keep_181 ?_
        refine lv_aload_n hx hb dX10_keep_184 rfl (lv_at hl 0 rfl) ?_
        refine va_get (D := D) (ci := 9) (v := .int (m1_11 - 1)) (C := RX10) (T := TX10) (N := 30) hx hb hts hi10 hown hK hP 0 rfl rfl 12 (by decide) hw0 (fun _ h9 => h9) rfl dX10_keep_185 ?_
        refine lv_aload_n hx hb dX10_keep_188 rfl (lv_at hl 0 rfl) ?_
        refine va_get (D := D) (ci := 9) (v := .long (J 4)) (C := RX10) (T := TX10) (N := 30) hx hb hts hi10 hown hK hP 0 rfl rfl 4 (by decide) hw10 (fun _ h9 => h9) rfl dX10_keep_189 ?_
        refine va_last hx hb hK hP hD hS 6 1 rfl rfl (by rw [hk]; unfold vp_in; decide) dX10_keep_192 (fun H locs hP hD hS => ?_)
        have hP : va_P D vwCl (MW cy a J (va_up (va_up I 3 m0_11) 12 (m1_11 - 1)) (va_up (va_up (va_up R 3 (upd m2_11 (m1_11 - 1).toNatClampNeg (I 1))) 4 m3_11) 5 (upd m4_11 (m1_11 - 1).toNatClampNeg (vp_nar .boolean m0_11))) (va_up (va_up (va_up RJ 2 (vp_updL m5_11 (m1_11 - 1).toNatClampNeg (J 0))) 6 (vp_updL m6_11 (m1_11 - 1).toNatClampNeg (J 4))) 7 m7_11)) H := hP
        have hD : va_D A (MW cy a J (va_up (va_up I 3 m0_11) 12 (m1_11 - 1)) (va_up (va_up (va_up R 3 (upd m2_11 (m1_11 - 1).toNatClampNeg (I 1))) 4 m3_11) 5 (upd m4_11 (m1_11 - 1).toNatClampNeg (vp_nar .boolean m0_11))) (va_up (va_up (va_up RJ 2 (vp_updL m5_11 (m1_11 - 1).toNatClampNeg (J 0))) 6 (vp_updL m6_11 (m1_11 - 1).toNatClampNeg (J 4))) 7 m7_11)) := hD
        refine lv_aload_n hx hb dX10_keep_193 rfl (lv_at hl 0 rfl) ?_
        refine va_get (D := D) (ci := 9) (v := .ref (a 7)) (C := RX10) (T := TX10) (N := 30) hx hb hts hi10 hown hK hP 0 rfl rfl 11 (by decide) hw11 (fun _ h9 => h9) rfl dX10_keep_194 ?_
        refine lv_aload_n hx hb dX10_keep_197 rfl (lv_at hl 0 rfl) ?_
        refine va_get (D := D) (ci := 9) (v := .int (m1_11 - 1)) (C := RX10) (T := TX10) (N := 30) hx hb hts hi10 hown hK hP 0 rfl rfl 12 (by decide) hw0 (fun _ h9 => h9) rfl dX10_keep_198 ?_
        refine lv_aload_n hx hb dX10_keep_201 rfl (lv_at hl 0 rfl) ?_
        refine va_get (D := D) (ci := 9) (v := .long (J 5)) (C := RX10) (T := TX10) (N := 30) hx hb hts hi10 hown hK hP 0 rfl rfl 5 (by decide) hw12 (fun _ h9 => h9) rfl dX10_keep_202 ?_
        refine va_last hx hb hK hP hD hS 7 1 rfl rfl (by rw [hk]; unfold vp_in; decide) dX10_keep_205 (fun H locs hP hD hS => ?_)
        have hP : va_P D vwCl (MW cy a J (va_up (va_up I 3 m0_11) 12 (m1_11 - 1)) (va_up (va_up (va_up R 3 (upd m2_11 (m1_11 - 1).toNatClampNeg (I 1))) 4 m3_11) 5 (upd m4_11 (m1_11 - 1).toNatClampNeg (vp_nar .boolean m0_11))) (va_up (va_up (va_up RJ 2 (vp_updL m5_11 (m1_11 - 1).toNatClampNeg (J 0))) 6 (vp_updL m6_11 (m1_11 - 1).toNatClampNeg (J 4))) 7 (vp_updL m7_11 (m1_11 - 1).toNatClampNeg (J 5)))) H := hP
        have hD : va_D A (MW cy a J (va_up (va_up I 3 m0_11) 12 (m1_11 - 1)) (va_up (va_up (va_up R 3 (upd m2_11 (m1_11 - 1).toNatClampNeg (I 1))) 4 m3_11) 5 (upd m4_11 (m1_11 - 1).toNatClampNeg (vp_nar .boolean m0_11))) (va_up (va_up (va_up RJ 2 (vp_updL m5_11 (m1_11 - 1).toNatClampNeg (J 0))) 6 (vp_updL m6_11 (m1_11 - 1).toNatClampNeg (J 4))) 7 (vp_updL m7_11 (m1_11 - 1).toNatClampNeg (J 5)))) := hD
        refine lv_iconst (v := 0) hx hb dX10_keep_206 (by decide) ?_
        refine lv_istore_n (lv' := [(1, .int 0), (0, .ref (a 0))]) hx hb dX10_keep_207 rfl hl (by decide) rfl (fun ls hl => ?_)
        exact lp208 _ 0 m0_11 (m1_11 - 1) (upd m2_11 (m1_11 - 1).toNatClampNeg (I 1)) m3_11 (upd m4_11 (m1_11 - 1).toNatClampNeg (vp_nar .boolean m0_11)) (vp_updL m5_11 (m1_11 - 1).toNatClampNeg (J 0)) (vp_updL m6_11 (m1_11 - 1).toNatClampNeg (J 4)) (vp_updL m7_11 (m1_11 - 1).toNatClampNeg (J 5)) (by omega) hm_m0_11 hi_6 hi_7 hi_8 (by rw [hk]; unfold vp_in; decide) (kp_1 h0 hk hie h2 h3 h4) (Nat.lt_succ_self _) _ _ hP hD hS ls (lv_sub hl [1, 0] rfl)
      · have hlt := ctr_lt (N := 20) (i := k + 1) (by decide) (by omega) c_5
        refine lv_aload_n hx hb dX10_keep_17 rfl (lv_at hl 0 rfl) ?_
        refine va_get (D := D) (ci := 9) (v := .ref (a 2)) (C := RX10) (T := TX10) (N := 30) hx hb hts hi10 hown hK hP 0 rfl rfl 6 (by decide) hw4 (fun _ h9 => h9) rfl dX10_keep_18 ?_
        refine lv_iload_n hx hb dX10_keep_21 rfl (lv_at hl 1 rfl) ?_
        refine lv_iconst (v := 1) hx hb dX10_keep_22 (by decide) ?_
        refine lv_isub hx hb dX10_keep_23 ?_
        refine wtop_i (y := nI k) (nI_s1 k) ?_
        refine lv_aload_n hx hb dX10_keep_24 rfl (lv_at hl 0 rfl) ?_
        refine va_get (D := D) (ci := 9) (v := .ref (a 2)) (C := RX10) (T := TX10) (N := 30) hx hb hts hi10 hown hK hP 0 rfl rfl 6 (by decide) hw4 (fun _ h9 => h9) rfl dX10_keep_25 ?_
        refine lv_iload_n hx hb dX10_keep_28 rfl (lv_at hl 1 rfl) ?_
        refine va_lald hx hb hK hP 2 1 rfl rfl (vp_in_nI (by omega) (by decide)) dX10_keep_29 ?_
        refine va_last hx hb hK hP hD hS 2 1 rfl rfl (vp_in_nI (by omega) (by decide)) dX10_keep_30 (fun H locs hP hD hS => ?_)
        have hP : va_P D vwCl (MW cy a J (va_up (va_up I 3 m0_11) 12 m1_11) (va_up (va_up (va_up R 3 m2_11) 4 m3_11) 5 m4_11) (va_up (va_up (va_up RJ 2 (vp_updL m5_11 (nI k).toNatClampNeg (m5_11 (nI (k + 1)).toNatClampNeg))) 6 m6_11) 7 m7_11)) H := hP
        have hD : va_D A (MW cy a J (va_up (va_up I 3 m0_11) 12 m1_11) (va_up (va_up (va_up R 3 m2_11) 4 m3_11) 5 m4_11) (va_up (va_up (va_up RJ 2 (vp_updL m5_11 (nI k).toNatClampNeg (m5_11 (nI (k + 1)).toNatClampNeg))) 6 m6_11) 7 m7_11)) := hD
        refine lv_aload_n hx hb dX10_keep_31 rfl (lv_at hl 0 rfl) ?_
        refine va_get (D := D) (ci := 9) (v := .ref (a 3)) (C := RX10) (T := TX10) (N := 30) hx hb hts hi10 hown hK hP 0 rfl rfl 7 (by decide) hw6 (fun _ h9 => h9) rfl dX10_keep_32 ?_
        refine lv_iload_n hx hb dX10_keep_35 rfl (lv_at hl 1 rfl) ?_
        refine lv_iconst (v := 1) hx hb dX10_keep_36 (by decide) ?_
        refine lv_isub hx hb dX10_keep_37 ?_
        refine wtop_i (y := nI k) (nI_s1 k) ?_
        refine lv_aload_n hx hb dX10_keep_38 rfl (lv_at hl 0 rfl) ?_
        refine va_get (D := D) (ci := 9) (v := .ref (a 3)) (C := RX10) (T := TX10) (N := 30) hx hb hts hi10 hown hK hP 0 rfl rfl 7 (by decide) hw6 (fun _ h9 => h9) rfl dX10_keep_39 ?_
        refine lv_iload_n hx hb dX10_keep_42 rfl (lv_at hl 1 rfl) ?_
        refine va_iald hx hb hK hP 3 0 rfl rfl (vp_in_nI (by omega) (by decide)) dX10_keep_43 ?_
        refine va_iast hx hb hK hP hD hS 3 0 rfl rfl (vp_in_nI (by omega) (by decide)) dX10_keep_44 (fun H locs hP hD hS => ?_)
        have hP : va_P D vwCl (MW cy a J (va_up (va_up I 3 m0_11) 12 m1_11) (va_up (va_up (va_up R 3 (upd m2_11 (nI k).toNatClampNeg (m2_11 (nI (k + 1)).toNatClampNeg))) 4 m3_11) 5 m4_11) (va_up (va_up (va_up RJ 2 (vp_updL m5_11 (nI k).toNatClampNeg (m5_11 (nI (k + 1)).toNatClampNeg))) 6 m6_11) 7 m7_11)) H := hP
        have hD : va_D A (MW cy a J (va_up (va_up I 3 m0_11) 12 m1_11) (va_up (va_up (va_up R 3 (upd m2_11 (nI k).toNatClampNeg (m2_11 (nI (k + 1)).toNatClampNeg))) 4 m3_11) 5 m4_11) (va_up (va_up (va_up RJ 2 (vp_updL m5_11 (nI k).toNatClampNeg (m5_11 (nI (k + 1)).toNatClampNeg))) 6 m6_11) 7 m7_11)) := hD
        have hi_9 : ∀ i, i < 20 → vp_in ((upd m2_11 (nI k).toNatClampNeg (m2_11 (nI (k + 1)).toNatClampNeg)) i) 21 := all21 hm_m2_11 (hm_m2_11 _ (in_lt (vp_in_nI (by omega) (by decide))))
        refine lv_aload_n hx hb dX10_keep_45 rfl (lv_at hl 0 rfl) ?_
        refine va_get (D := D) (ci := 9) (v := .ref (a 5)) (C := RX10) (T := TX10) (N := 30) hx hb hts hi10 hown hK hP 0 rfl rfl 9 (by decide) hw8 (fun _ h9 => h9) rfl dX10_keep_46 ?_
        refine lv_iload_n hx hb dX10_keep_49 rfl (lv_at hl 1 rfl) ?_
        refine lv_iconst (v := 1) hx hb dX10_keep_50 (by decide) ?_
        refine lv_isub hx hb dX10_keep_51 ?_
        refine wtop_i (y := nI k) (nI_s1 k) ?_
        refine lv_aload_n hx hb dX10_keep_52 rfl (lv_at hl 0 rfl) ?_
        refine va_get (D := D) (ci := 9) (v := .ref (a 5)) (C := RX10) (T := TX10) (N := 30) hx hb hts hi10 hown hK hP 0 rfl rfl 9 (by decide) hw8 (fun _ h9 => h9) rfl dX10_keep_53 ?_
        refine lv_iload_n hx hb dX10_keep_56 rfl (lv_at hl 1 rfl) ?_
        refine va_zald hx hb hK hP 5 2 rfl rfl (vp_in_nI (by omega) (by decide)) dX10_keep_57 ?_
        refine va_zast hx hb hK hP hD hS 5 2 rfl rfl (vp_in_nI (by omega) (by decide)) dX10_keep_58 (fun H locs hP hD hS => ?_)
        have hP : va_P D vwCl (MW cy a J (va_up (va_up I 3 m0_11) 12 m1_11) (va_up (va_up (va_up R 3 (upd m2_11 (nI k).toNatClampNeg (m2_11 (nI (k + 1)).toNatClampNeg))) 4 m3_11) 5 (upd m4_11 (nI k).toNatClampNeg (vp_nar .boolean (m4_11 (nI (k + 1)).toNatClampNeg)))) (va_up (va_up (va_up RJ 2 (vp_updL m5_11 (nI k).toNatClampNeg (m5_11 (nI (k + 1)).toNatClampNeg))) 6 m6_11) 7 m7_11)) H := hP
        have hD : va_D A (MW cy a J (va_up (va_up I 3 m0_11) 12 m1_11) (va_up (va_up (va_up R 3 (upd m2_11 (nI k).toNatClampNeg (m2_11 (nI (k + 1)).toNatClampNeg))) 4 m3_11) 5 (upd m4_11 (nI k).toNatClampNeg (vp_nar .boolean (m4_11 (nI (k + 1)).toNatClampNeg)))) (va_up (va_up (va_up RJ 2 (vp_updL m5_11 (nI k).toNatClampNeg (m5_11 (nI (k + 1)).toNatClampNeg))) 6 m6_11) 7 m7_11)) := hD
        have hi_10 : ∀ i, i < 20 → isB ((upd m4_11 (nI k).toNatClampNeg (vp_nar .boolean (m4_11 (nI (k + 1)).toNatClampNeg))) i) := all_upd hm_m4_11 (nar_B _)
        refine lv_aload_n hx hb dX10_keep_59 rfl (lv_at hl 0 rfl) ?_
        refine va_get (D := D) (ci := 9) (v := .ref (a 6)) (C := RX10) (T := TX10) (N := 30) hx hb hts hi10 hown hK hP 0 rfl rfl 10 (by decide) hw9 (fun _ h9 => h9) rfl dX10_keep_60 ?_
        refine lv_iload_n hx hb dX10_keep_63 rfl (lv_at hl 1 rfl) ?_
        refine lv_iconst (v := 1) hx hb dX10_keep_64 (by decide) ?_
        refine lv_isub hx hb dX10_keep_65 ?_
        refine wtop_i (y := nI k) (nI_s1 k) ?_
        refine lv_aload_n hx hb dX10_keep_66 rfl (lv_at hl 0 rfl) ?_
        refine va_get (D := D) (ci := 9) (v := .ref (a 6)) (C := RX10) (T := TX10) (N := 30) hx hb hts hi10 hown hK hP 0 rfl rfl 10 (by decide) hw9 (fun _ h9 => h9) rfl dX10_keep_67 ?_
        refine lv_iload_n hx hb dX10_keep_70 rfl (lv_at hl 1 rfl) ?_
        refine va_lald hx hb hK hP 6 1 rfl rfl (vp_in_nI (by omega) (by decide)) dX10_keep_71 ?_
        refine va_last hx hb hK hP hD hS 6 1 rfl rfl (vp_in_nI (by omega) (by decide)) dX10_keep_72 (fun H locs hP hD hS => ?_)
        have hP : va_P D vwCl (MW cy a J (va_up (va_up I 3 m0_11) 12 m1_11) (va_up (va_up (va_up R 3 (upd m2_11 (nI k).toNatClampNeg (m2_11 (nI (k + 1)).toNatClampNeg))) 4 m3_11) 5 (upd m4_11 (nI k).toNatClampNeg (vp_nar .boolean (m4_11 (nI (k + 1)).toNatClampNeg)))) (va_up (va_up (va_up RJ 2 (vp_updL m5_11 (nI k).toNatClampNeg (m5_11 (nI (k + 1)).toNatClampNeg))) 6 (vp_updL m6_11 (nI k).toNatClampNeg (m6_11 (nI (k + 1)).toNatClampNeg))) 7 m7_11)) H := hP
        have hD : va_D A (MW cy a J (va_up (va_up I 3 m0_11) 12 m1_11) (va_up (va_up (va_up R 3 (upd m2_11 (nI k).toNatClampNeg (m2_11 (nI (k + 1)).toNatClampNeg))) 4 m3_11) 5 (upd m4_11 (nI k).toNatClampNeg (vp_nar .boolean (m4_11 (nI (k + 1)).toNatClampNeg)))) (va_up (va_up (va_up RJ 2 (vp_updL m5_11 (nI k).toNatClampNeg (m5_11 (nI (k + 1)).toNatClampNeg))) 6 (vp_updL m6_11 (nI k).toNatClampNeg (m6_11 (nI (k + 1)).toNatClampNeg))) 7 m7_11)) := hD
        refine lv_aload_n hx hb dX10_keep_73 rfl (lv_at hl 0 rfl) ?_
        refine va_get (D := D) (ci := 9) (v := .ref (a 7)) (C := RX10) (T := TX10) (N := 30) hx hb hts hi10 hown hK hP 0 rfl rfl 11 (by decide) hw11 (fun _ h9 => h9) rfl dX10_keep_74 ?_
        refine lv_iload_n hx hb dX10_keep_77 rfl (lv_at hl 1 rfl) ?_
        refine lv_iconst (v := 1) hx hb dX10_keep_78 (by decide) ?_
        refine lv_isub hx hb dX10_keep_79 ?_
        refine wtop_i (y := nI k) (nI_s1 k) ?_
        refine lv_aload_n hx hb dX10_keep_80 rfl (lv_at hl 0 rfl) ?_
        refine va_get (D := D) (ci := 9) (v := .ref (a 7)) (C := RX10) (T := TX10) (N := 30) hx hb hts hi10 hown hK hP 0 rfl rfl 11 (by decide) hw11 (fun _ h9 => h9) rfl dX10_keep_81 ?_
        refine lv_iload_n hx hb dX10_keep_84 rfl (lv_at hl 1 rfl) ?_
        refine va_lald hx hb hK hP 7 1 rfl rfl (vp_in_nI (by omega) (by decide)) dX10_keep_85 ?_
        refine va_last hx hb hK hP hD hS 7 1 rfl rfl (vp_in_nI (by omega) (by decide)) dX10_keep_86 (fun H locs hP hD hS => ?_)
        have hP : va_P D vwCl (MW cy a J (va_up (va_up I 3 m0_11) 12 m1_11) (va_up (va_up (va_up R 3 (upd m2_11 (nI k).toNatClampNeg (m2_11 (nI (k + 1)).toNatClampNeg))) 4 m3_11) 5 (upd m4_11 (nI k).toNatClampNeg (vp_nar .boolean (m4_11 (nI (k + 1)).toNatClampNeg)))) (va_up (va_up (va_up RJ 2 (vp_updL m5_11 (nI k).toNatClampNeg (m5_11 (nI (k + 1)).toNatClampNeg))) 6 (vp_updL m6_11 (nI k).toNatClampNeg (m6_11 (nI (k + 1)).toNatClampNeg))) 7 (vp_updL m7_11 (nI k).toNatClampNeg (m7_11 (nI (k + 1)).toNatClampNeg)))) H := hP
        have hD : va_D A (MW cy a J (va_up (va_up I 3 m0_11) 12 m1_11) (va_up (va_up (va_up R 3 (upd m2_11 (nI k).toNatClampNeg (m2_11 (nI (k + 1)).toNatClampNeg))) 4 m3_11) 5 (upd m4_11 (nI k).toNatClampNeg (vp_nar .boolean (m4_11 (nI (k + 1)).toNatClampNeg)))) (va_up (va_up (va_up RJ 2 (vp_updL m5_11 (nI k).toNatClampNeg (m5_11 (nI (k + 1)).toNatClampNeg))) 6 (vp_updL m6_11 (nI k).toNatClampNeg (m6_11 (nI (k + 1)).toNatClampNeg))) 7 (vp_updL m7_11 (nI k).toNatClampNeg (m7_11 (nI (k + 1)).toNatClampNeg)))) := hD
        refine lv_iconst (v := 0) hx hb dX10_keep_87 (by decide) ?_
        refine lv_istore_n (lv' := [(2, .int 0), (0, .ref (a 0)), (1, .int (nI (k + 1)))]) hx hb dX10_keep_88 rfl hl (by decide) rfl (fun ls hl => ?_)
        exact lp89 _ 0 m0_11 m1_11 (upd m2_11 (nI k).toNatClampNeg (m2_11 (nI (k + 1)).toNatClampNeg)) m3_11 (upd m4_11 (nI k).toNatClampNeg (vp_nar .boolean (m4_11 (nI (k + 1)).toNatClampNeg))) (vp_updL m5_11 (nI k).toNatClampNeg (m5_11 (nI (k + 1)).toNatClampNeg)) (vp_updL m6_11 (nI k).toNatClampNeg (m6_11 (nI (k + 1)).toNatClampNeg)) (vp_updL m7_11 (nI k).toNatClampNeg (m7_11 (nI (k + 1)).toNatClampNeg)) (by omega) hm_m0_11 hm_m1_11 hi_9 hi_10 (by omega) hk (shf_L (by omega) h2) (shf_I (by omega) h3) h4 (Nat.lt_succ_self _) _ _ hP hD hS ls (lv_sub hl [1, 2, 0] rfl)
  refine lv_aload_n hx hb dX10_keep_0 rfl (lv_at hl 0 rfl) ?_
  refine va_get (D := D) (ci := 9) (v := .int (I 12)) (C := RX10) (T := TX10) (N := 30) hx hb hts hi10 hown hK hP 0 rfl rfl 12 (by decide) hw0 (fun _ h9 => h9) rfl dX10_keep_1 ?_
  refine lv_bipush (v := 20) hx hb dX10_keep_4 (by decide) ?_
  refine lv_icmp_ne (tgt := 141) hx hb dX10_keep_6 (by decide) (fun c_11 => ?_) (fun c_11 => ?_)
  · refine lv_aload_n hx hb dX10_keep_141 rfl (lv_at hl 0 rfl) ?_
    refine va_get (D := D) (ci := 9) (v := .ref (a 2)) (C := RX10) (T := TX10) (N := 30) hx hb hts hi10 hown hK hP 0 rfl rfl 6 (by decide) hw4 (fun _ h9 => h9) rfl dX10_keep_142 ?_
    refine lv_aload_n hx hb dX10_keep_145 rfl (lv_at hl 0 rfl) ?_
    refine va_get (D := D) (ci := 9) (v := .int (I 12)) (C := RX10) (T := TX10) (N := 30) hx hb hts hi10 hown hK hP 0 rfl rfl 12 (by decide) hw0 (fun _ h9 => h9) rfl dX10_keep_146 ?_
    refine lv_aload_n hx hb dX10_keep_149 rfl (lv_at hl 0 rfl) ?_
    refine va_get (D := D) (ci := 9) (v := .long (J 0)) (C := RX10) (T := TX10) (N := 30) hx hb hts hi10 hown hK hP 0 rfl rfl 0 (by decide) hw5 (fun _ h9 => h9) rfl dX10_keep_150 ?_
    refine va_last hx hb hK hP hD hS 2 1 rfl rfl (in_ne hM.2.2.1 c_11) dX10_keep_153 (fun H locs hP hD hS => ?_)
    have hP : va_P D vwCl (MW cy a J (va_up (va_up I 3 (I 3)) 12 (I 12)) (va_up (va_up (va_up R 3 (R 3)) 4 (R 4)) 5 (R 5)) (va_up (va_up (va_up RJ 2 (vp_updL (RJ 2) (I 12).toNatClampNeg (J 0))) 6 (RJ 6)) 7 (RJ 7))) H := hP
    have hD : va_D A (MW cy a J (va_up (va_up I 3 (I 3)) 12 (I 12)) (va_up (va_up (va_up R 3 (R 3)) 4 (R 4)) 5 (R 5)) (va_up (va_up (va_up RJ 2 (vp_updL (RJ 2) (I 12).toNatClampNeg (J 0))) 6 (RJ 6)) 7 (RJ 7))) := hD
    refine lv_aload_n hx hb dX10_keep_154 rfl (lv_at hl 0 rfl) ?_
    refine va_get (D := D) (ci := 9) (v := .ref (a 3)) (C := RX10) (T := TX10) (N := 30) hx hb hts hi10 hown hK hP 0 rfl rfl 7 (by decide) hw6 (fun _ h9 => h9) rfl dX10_keep_155 ?_
    refine lv_aload_n hx hb dX10_keep_158 rfl (lv_at hl 0 rfl) ?_
    refine va_get (D := D) (ci := 9) (v := .int (I 12)) (C := RX10) (T := TX10) (N := 30) hx hb hts hi10 hown hK hP 0 rfl rfl 12 (by decide) hw0 (fun _ h9 => h9) rfl dX10_keep_159 ?_
    refine lv_aload_n hx hb dX10_keep_162 rfl (lv_at hl 0 rfl) ?_
    refine va_get (D := D) (ci := 9) (v := .int (I 1)) (C := RX10) (T := TX10) (N := 30) hx hb hts hi10 hown hK hP 0 rfl rfl 1 (by decide) hw7 (fun _ h9 => h9) rfl dX10_keep_163 ?_
    refine va_iast hx hb hK hP hD hS 3 0 rfl rfl (in_ne hM.2.2.1 c_11) dX10_keep_166 (fun H locs hP hD hS => ?_)
    have hP : va_P D vwCl (MW cy a J (va_up (va_up I 3 (I 3)) 12 (I 12)) (va_up (va_up (va_up R 3 (upd (R 3) (I 12).toNatClampNeg (I 1))) 4 (R 4)) 5 (R 5)) (va_up (va_up (va_up RJ 2 (vp_updL (RJ 2) (I 12).toNatClampNeg (J 0))) 6 (RJ 6)) 7 (RJ 7))) H := hP
    have hD : va_D A (MW cy a J (va_up (va_up I 3 (I 3)) 12 (I 12)) (va_up (va_up (va_up R 3 (upd (R 3) (I 12).toNatClampNeg (I 1))) 4 (R 4)) 5 (R 5)) (va_up (va_up (va_up RJ 2 (vp_updL (RJ 2) (I 12).toNatClampNeg (J 0))) 6 (RJ 6)) 7 (RJ 7))) := hD
    have hi_12 : ∀ i, i < 20 → vp_in ((upd (R 3) (I 12).toNatClampNeg (I 1)) i) 21 := all21 hM.2.2.2.1 hM.1
    refine lv_aload_n hx hb dX10_keep_167 rfl (lv_at hl 0 rfl) ?_
    refine va_get (D := D) (ci := 9) (v := .ref (a 5)) (C := RX10) (T := TX10) (N := 30) hx hb hts hi10 hown hK hP 0 rfl rfl 9 (by decide) hw8 (fun _ h9 => h9) rfl dX10_keep_168 ?_
    refine lv_aload_n hx hb dX10_keep_171 rfl (lv_at hl 0 rfl) ?_
    refine va_get (D := D) (ci := 9) (v := .int (I 12)) (C := RX10) (T := TX10) (N := 30) hx hb hts hi10 hown hK hP 0 rfl rfl 12 (by decide) hw0 (fun _ h9 => h9) rfl dX10_keep_172 ?_
    refine lv_aload_n hx hb dX10_keep_175 rfl (lv_at hl 0 rfl) ?_
    refine va_get (D := D) (ci := 9) (v := .int (I 3)) (C := RX10) (T := TX10) (N := 30) hx hb hts hi10 hown hK hP 0 rfl rfl 3 (by decide) hw1 (fun _ h9 => h9) rfl dX10_keep_176 ?_
    refine va_zast hx hb hK hP hD hS 5 2 rfl rfl (in_ne hM.2.2.1 c_11) dX10_keep_179 (fun H locs hP hD hS => ?_)
    have hP : va_P D vwCl (MW cy a J (va_up (va_up I 3 (I 3)) 12 (I 12)) (va_up (va_up (va_up R 3 (upd (R 3) (I 12).toNatClampNeg (I 1))) 4 (R 4)) 5 (upd (R 5) (I 12).toNatClampNeg (vp_nar .boolean (I 3)))) (va_up (va_up (va_up RJ 2 (vp_updL (RJ 2) (I 12).toNatClampNeg (J 0))) 6 (RJ 6)) 7 (RJ 7))) H := hP
    have hD : va_D A (MW cy a J (va_up (va_up I 3 (I 3)) 12 (I 12)) (va_up (va_up (va_up R 3 (upd (R 3) (I 12).toNatClampNeg (I 1))) 4 (R 4)) 5 (upd (R 5) (I 12).toNatClampNeg (vp_nar .boolean (I 3)))) (va_up (va_up (va_up RJ 2 (vp_updL (RJ 2) (I 12).toNatClampNeg (J 0))) 6 (RJ 6)) 7 (RJ 7))) := hD
    have hi_13 : ∀ i, i < 20 → isB ((upd (R 5) (I 12).toNatClampNeg (vp_nar .boolean (I 3))) i) := all_upd hM.2.2.2.2.1 (nar_B _)
    refine lv_aload_n hx hb dX10_keep_180 rfl (lv_at hl 0 rfl) ?_
    refine va_get (D := D) (ci := 9) (v := .ref (a 6)) (C := RX10) (T := TX10) (N := 30) hx hb hts hi10 hown hK hP 0 rfl rfl 10 (by decide) hw9 (fun _ h9 => h9) rfl dX10_keep_181 ?_
    refine lv_aload_n hx hb dX10_keep_184 rfl (lv_at hl 0 rfl) ?_
    refine va_get (D := D) (ci := 9) (v := .int (I 12)) (C := RX10) (T := TX10) (N := 30) hx hb hts hi10 hown hK hP 0 rfl rfl 12 (by decide) hw0 (fun _ h9 => h9) rfl dX10_keep_185 ?_
    refine lv_aload_n hx hb dX10_keep_188 rfl (lv_at hl 0 rfl) ?_
    refine va_get (D := D) (ci := 9) (v := .long (J 4)) (C := RX10) (T := TX10) (N := 30) hx hb hts hi10 hown hK hP 0 rfl rfl 4 (by decide) hw10 (fun _ h9 => h9) rfl dX10_keep_189 ?_
    refine va_last hx hb hK hP hD hS 6 1 rfl rfl (in_ne hM.2.2.1 c_11) dX10_keep_192 (fun H locs hP hD hS => ?_)
    have hP : va_P D vwCl (MW cy a J (va_up (va_up I 3 (I 3)) 12 (I 12)) (va_up (va_up (va_up R 3 (upd (R 3) (I 12).toNatClampNeg (I 1))) 4 (R 4)) 5 (upd (R 5) (I 12).toNatClampNeg (vp_nar .boolean (I 3)))) (va_up (va_up (va_up RJ 2 (vp_updL (RJ 2) (I 12).toNatClampNeg (J 0))) 6 (vp_updL (RJ 6) (I 12).toNatClampNeg (J 4))) 7 (RJ 7))) H := hP
    have hD : va_D A (MW cy a J (va_up (va_up I 3 (I 3)) 12 (I 12)) (va_up (va_up (va_up R 3 (upd (R 3) (I 12).toNatClampNeg (I 1))) 4 (R 4)) 5 (upd (R 5) (I 12).toNatClampNeg (vp_nar .boolean (I 3)))) (va_up (va_up (va_up RJ 2 (vp_updL (RJ 2) (I 12).toNatClampNeg (J 0))) 6 (vp_updL (RJ 6) (I 12).toNatClampNeg (J 4))) 7 (RJ 7))) := hD
    refine lv_aload_n hx hb dX10_keep_193 rfl (lv_at hl 0 rfl) ?_
    refine va_get (D := D) (ci := 9) (v := .ref (a 7)) (C := RX10) (T := TX10) (N := 30) hx hb hts hi10 hown hK hP 0 rfl rfl 11 (by decide) hw11 (fun _ h9 => h9) rfl dX10_keep_194 ?_
    refine lv_aload_n hx hb dX10_keep_197 rfl (lv_at hl 0 rfl) ?_
    refine va_get (D := D) (ci := 9) (v := .int (I 12)) (C := RX10) (T := TX10) (N := 30) hx hb hts hi10 hown hK hP 0 rfl rfl 12 (by decide) hw0 (fun _ h9 => h9) rfl dX10_keep_198 ?_
    refine lv_aload_n hx hb dX10_keep_201 rfl (lv_at hl 0 rfl) ?_
    refine va_get (D := D) (ci := 9) (v := .long (J 5)) (C := RX10) (T := TX10) (N := 30) hx hb hts hi10 hown hK hP 0 rfl rfl 5 (by decide) hw12 (fun _ h9 => h9) rfl dX10_keep_202 ?_
    refine va_last hx hb hK hP hD hS 7 1 rfl rfl (in_ne hM.2.2.1 c_11) dX10_keep_205 (fun H locs hP hD hS => ?_)
    have hP : va_P D vwCl (MW cy a J (va_up (va_up I 3 (I 3)) 12 (I 12)) (va_up (va_up (va_up R 3 (upd (R 3) (I 12).toNatClampNeg (I 1))) 4 (R 4)) 5 (upd (R 5) (I 12).toNatClampNeg (vp_nar .boolean (I 3)))) (va_up (va_up (va_up RJ 2 (vp_updL (RJ 2) (I 12).toNatClampNeg (J 0))) 6 (vp_updL (RJ 6) (I 12).toNatClampNeg (J 4))) 7 (vp_updL (RJ 7) (I 12).toNatClampNeg (J 5)))) H := hP
    have hD : va_D A (MW cy a J (va_up (va_up I 3 (I 3)) 12 (I 12)) (va_up (va_up (va_up R 3 (upd (R 3) (I 12).toNatClampNeg (I 1))) 4 (R 4)) 5 (upd (R 5) (I 12).toNatClampNeg (vp_nar .boolean (I 3)))) (va_up (va_up (va_up RJ 2 (vp_updL (RJ 2) (I 12).toNatClampNeg (J 0))) 6 (vp_updL (RJ 6) (I 12).toNatClampNeg (J 4))) 7 (vp_updL (RJ 7) (I 12).toNatClampNeg (J 5)))) := hD
    refine lv_iconst (v := 0) hx hb dX10_keep_206 (by decide) ?_
    refine lv_istore_n (lv' := [(1, .int 0), (0, .ref (a 0))]) hx hb dX10_keep_207 rfl hl (by decide) rfl (fun ls hl => ?_)
    exact lp208 _ 0 (I 3) (I 12) (upd (R 3) (I 12).toNatClampNeg (I 1)) (R 4) (upd (R 5) (I 12).toNatClampNeg (vp_nar .boolean (I 3))) (vp_updL (RJ 2) (I 12).toNatClampNeg (J 0)) (vp_updL (RJ 6) (I 12).toNatClampNeg (J 4)) (vp_updL (RJ 7) (I 12).toNatClampNeg (J 5)) (by omega) hM.2.1 hM.2.2.1 hi_12 hi_13 (in_ne hM.2.2.1 c_11) (kp_0 hM.2.2.1 c_11) (Nat.lt_succ_self _) _ _ hP hD hS ls (lv_sub hl [1, 0] rfl)
  · refine lv_iconst (v := 1) hx hb dX10_keep_9 (by decide) ?_
    refine lv_istore_n (lv' := [(1, .int 1), (0, .ref (a 0))]) hx hb dX10_keep_10 rfl hl (by decide) rfl (fun ls hl => ?_)
    exact lp11 _ 0 (I 3) (I 12) (R 3) (R 4) (R 5) (RJ 2) (RJ 6) (RJ 7) (by omega) hM.2.1 hM.2.2.1 hM.2.2.2.1 hM.2.2.2.2.1 c_11 c_11 shf_0 shf_0 shf_0 (Nat.lt_succ_self _) _ _ hP hD hS ls (lv_sub hl [1, 0] rfl)
theorem dX10_undo_91 : decode cX10_undo 91 = .ok (.iload_n 1, 1) := by decide +kernel
theorem dX10_undo_92 : decode cX10_undo 92 = .ok (.bipush 20, 2) := by decide +kernel
theorem dX10_undo_94 : decode cX10_undo 94 = .ok (.if_icmp .ge 29, 3) := by decide +kernel
theorem dX10_undo_123 : decode cX10_undo 123 = .ok (.aload_n 0, 1) := by decide +kernel
theorem dX10_undo_124 : decode cX10_undo 124 = .ok (.getfield 78, 3) := by decide +kernel
theorem dX10_undo_127 : decode cX10_undo 127 = .ok (.ireturn, 1) := by decide +kernel
theorem dX10_undo_97 : decode cX10_undo 97 = .ok (.aload_n 0, 1) := by decide +kernel
theorem dX10_undo_98 : decode cX10_undo 98 = .ok (.getfield 9, 3) := by decide +kernel
theorem dX10_undo_101 : decode cX10_undo 101 = .ok (.iload_n 1, 1) := by decide +kernel
theorem dX10_undo_102 : decode cX10_undo 102 = .ok (.aload_n 0, 1) := by decide +kernel
theorem dX10_undo_103 : decode cX10_undo 103 = .ok (.getfield 20, 3) := by decide +kernel
theorem dX10_undo_106 : decode cX10_undo 106 = .ok (.bipush 20, 2) := by decide +kernel
theorem dX10_undo_108 : decode cX10_undo 108 = .ok (.aload_n 0, 1) := by decide +kernel
theorem dX10_undo_109 : decode cX10_undo 109 = .ok (.getfield 78, 3) := by decide +kernel
theorem dX10_undo_112 : decode cX10_undo 112 = .ok (.imul, 1) := by decide +kernel
theorem dX10_undo_113 : decode cX10_undo 113 = .ok (.iload_n 1, 1) := by decide +kernel
theorem dX10_undo_114 : decode cX10_undo 114 = .ok (.iadd, 1) := by decide +kernel
theorem dX10_undo_115 : decode cX10_undo 115 = .ok (.iaload, 1) := by decide +kernel
theorem dX10_undo_116 : decode cX10_undo 116 = .ok (.iastore, 1) := by decide +kernel
theorem dX10_undo_117 : decode cX10_undo 117 = .ok (.iinc 1 1, 3) := by decide +kernel
theorem dX10_undo_120 : decode cX10_undo 120 = .ok (.goto (-29), 3) := by decide +kernel
theorem dX10_undo_0 : decode cX10_undo 0 = .ok (.aload_n 0, 1) := by decide +kernel
theorem dX10_undo_1 : decode cX10_undo 1 = .ok (.getfield 78, 3) := by decide +kernel
theorem dX10_undo_4 : decode cX10_undo 4 = .ok (.ifCond .ne 10, 3) := by decide +kernel
theorem dX10_undo_14 : decode cX10_undo 14 = .ok (.aload_n 0, 1) := by decide +kernel
theorem dX10_undo_15 : decode cX10_undo 15 = .ok (.dup, 1) := by decide +kernel
theorem dX10_undo_16 : decode cX10_undo 16 = .ok (.getfield 78, 3) := by decide +kernel
theorem dX10_undo_19 : decode cX10_undo 19 = .ok (.iconst 1, 1) := by decide +kernel
theorem dX10_undo_20 : decode cX10_undo 20 = .ok (.isub, 1) := by decide +kernel
theorem dX10_undo_21 : decode cX10_undo 21 = .ok (.putfield 78, 3) := by decide +kernel
theorem dX10_undo_24 : decode cX10_undo 24 = .ok (.aload_n 0, 1) := by decide +kernel
theorem dX10_undo_25 : decode cX10_undo 25 = .ok (.aload_n 0, 1) := by decide +kernel
theorem dX10_undo_26 : decode cX10_undo 26 = .ok (.getfield 13, 3) := by decide +kernel
theorem dX10_undo_29 : decode cX10_undo 29 = .ok (.aload_n 0, 1) := by decide +kernel
theorem dX10_undo_30 : decode cX10_undo 30 = .ok (.getfield 78, 3) := by decide +kernel
theorem dX10_undo_33 : decode cX10_undo 33 = .ok (.laload, 1) := by decide +kernel
theorem dX10_undo_34 : decode cX10_undo 34 = .ok (.putfield 81, 3) := by decide +kernel
theorem dX10_undo_37 : decode cX10_undo 37 = .ok (.aload_n 0, 1) := by decide +kernel
theorem dX10_undo_38 : decode cX10_undo 38 = .ok (.aload_n 0, 1) := by decide +kernel
theorem dX10_undo_39 : decode cX10_undo 39 = .ok (.getfield 17, 3) := by decide +kernel
theorem dX10_undo_42 : decode cX10_undo 42 = .ok (.aload_n 0, 1) := by decide +kernel
theorem dX10_undo_43 : decode cX10_undo 43 = .ok (.getfield 78, 3) := by decide +kernel
theorem dX10_undo_46 : decode cX10_undo 46 = .ok (.iaload, 1) := by decide +kernel
theorem dX10_undo_47 : decode cX10_undo 47 = .ok (.putfield 85, 3) := by decide +kernel
theorem dX10_undo_50 : decode cX10_undo 50 = .ok (.aload_n 0, 1) := by decide +kernel
theorem dX10_undo_51 : decode cX10_undo 51 = .ok (.aload_n 0, 1) := by decide +kernel
theorem dX10_undo_52 : decode cX10_undo 52 = .ok (.getfield 23, 3) := by decide +kernel
theorem dX10_undo_55 : decode cX10_undo 55 = .ok (.aload_n 0, 1) := by decide +kernel
theorem dX10_undo_56 : decode cX10_undo 56 = .ok (.getfield 78, 3) := by decide +kernel
theorem dX10_undo_59 : decode cX10_undo 59 = .ok (.baload, 1) := by decide +kernel
theorem dX10_undo_60 : decode cX10_undo 60 = .ok (.putfield 88, 3) := by decide +kernel
theorem dX10_undo_63 : decode cX10_undo 63 = .ok (.aload_n 0, 1) := by decide +kernel
theorem dX10_undo_64 : decode cX10_undo 64 = .ok (.aload_n 0, 1) := by decide +kernel
theorem dX10_undo_65 : decode cX10_undo 65 = .ok (.getfield 27, 3) := by decide +kernel
theorem dX10_undo_68 : decode cX10_undo 68 = .ok (.aload_n 0, 1) := by decide +kernel
theorem dX10_undo_69 : decode cX10_undo 69 = .ok (.getfield 78, 3) := by decide +kernel
theorem dX10_undo_72 : decode cX10_undo 72 = .ok (.laload, 1) := by decide +kernel
theorem dX10_undo_73 : decode cX10_undo 73 = .ok (.putfield 92, 3) := by decide +kernel
theorem dX10_undo_76 : decode cX10_undo 76 = .ok (.aload_n 0, 1) := by decide +kernel
theorem dX10_undo_77 : decode cX10_undo 77 = .ok (.aload_n 0, 1) := by decide +kernel
theorem dX10_undo_78 : decode cX10_undo 78 = .ok (.getfield 30, 3) := by decide +kernel
theorem dX10_undo_81 : decode cX10_undo 81 = .ok (.aload_n 0, 1) := by decide +kernel
theorem dX10_undo_82 : decode cX10_undo 82 = .ok (.getfield 78, 3) := by decide +kernel
theorem dX10_undo_85 : decode cX10_undo 85 = .ok (.laload, 1) := by decide +kernel
theorem dX10_undo_86 : decode cX10_undo 86 = .ok (.putfield 95, 3) := by decide +kernel
theorem dX10_undo_89 : decode cX10_undo 89 = .ok (.iconst 0, 1) := by decide +kernel
theorem dX10_undo_90 : decode cX10_undo 90 = .ok (.istore_n 1, 1) := by decide +kernel
theorem dX10_undo_7 : decode cX10_undo 7 = .ok (.aload_n 0, 1) := by decide +kernel
theorem dX10_undo_8 : decode cX10_undo 8 = .ok (.ldc 98, 2) := by decide +kernel
set_option maxRecDepth 20000 in
theorem ggX10_undo_X10_finding : GoodIn wsX10_undo wsX10_finding := goodIn_r _ [19, 20, 21, 22, 23, 24, 25, 26, 27, 28, 29, 30, 31, 32, 33, 34, 35, 36, 37, 38, 39, 40, 41, 42, 43, 44, 45, 46, 47, 48, 49, 50] rfl (by decide +kernel)
set_option maxRecDepth 20000 in
theorem gX10_undo_X10_finding : GoodIn wsX10_undo (wsV RX10 99 RX10 yX10_finding wsX10_finding) := goodIn_app (goodIn_r _ [15, 16, 17, 18] rfl (by decide +kernel)) ggX10_undo_X10_finding
theorem dX10_undo_10 : decode cX10_undo 10 = .ok (.invokevirtual 99, 3) := by decide +kernel
theorem dX10_undo_13 : decode cX10_undo 13 = .ok (.ireturn, 1) := by decide +kernel
set_option maxRecDepth 20000 in
theorem ihX10_undo_10 : ∀ w ∈ u_ws RX10 TX10 30, w ∈ wsX10_undo := fun _ h => List.mem_cons_of_mem _ (List.mem_append_right _ h)
set_option maxHeartbeats 4000000 in
set_option maxRecDepth 100000 in
theorem x_X10_undo (l : Launch) (D : va_G) (cy : Nat → ClassId) (a : Nat → Nat) (sz : Nat) (J : Nat → Int64) (I : Nat → Int32) (R : Nat → Nat → Int32) (RJ : Nat → Nat → Int64)  (fl : Int64) (S : List Int32) (P : List PE) (hRA : RMf (J 0) (I 1) (I 12) (R 1) (R 3) (R 4) (RJ 2) fl S P) (hM : MI I R) : Met l yX10_undo wsX10_undo ({ frames := 1, cells := 0, slots := 0, locals := 21 }) (va_Pc [.ref (a 0)] (PW D cy sz (MW cy a J I R RJ))) (va_Qi (fun r (u : MS) => ∃ (w0 : Int64), ∃ (w1 : Int64), ∃ (w2 : Int64), ∃ (w3 : Int32), ∃ (w4 : Int32), ∃ (w5 : Int32), ∃ (w6 : Int32), ∃ (w7 : Nat → Int32), (r = (aUndoA P) ∧ (vp_in w3 21) ∧ (isB w4) ∧ (vp_in w5 21) ∧ (RMf w0 w3 w5 w7 (R 3) (R 4) (RJ 2) (aUndoF fl P) (aUndoS S P) (aUndoP P))) ∧ u = ((va_up (va_up (va_up J 0 w0) 4 w1) 5 w2), (va_up (va_up (va_up (va_up I 1 w3) 3 w4) 12 w5) 13 w6), (va_up R 1 w7), RJ)) (BW D (va_A (MW cy a J I R RJ) sz) (MWu cy a)) (va_A (MW cy a J I R RJ) sz)) 0 0 (va_A (MW cy a J I R RJ) sz) := by
  refine Met.ofW (cc := cX10_undo) (maxL := 2) (ret := (some .int)) (by decide) rfl ?_
  intro p e s m args below meth c s₁ B hml hv
  obtain ⟨rfl, rfl, hP, hK, hN, hD0⟩ := hv
  have hx := B.exec
  have hb := B.bytes
  have hr := B.returns
  have hts := atoms_spec (ws := wsX10_undo) B.pre
  have hown : s.vm.findClass RX10 = some m.cls := findClass_of_methodNamed B.named
  have hlocks := B.notSynchronized
  have hw0 := hts (.fieldLink RX10 78 "ParquetLayerModel" "kept" "I") (by decide +kernel)
  have hw1 := hts (.fieldLink RX10 9 "ParquetLayerModel" "stone" "[I") (by decide +kernel)
  have hw2 := hts (.fieldLink RX10 20 "ParquetLayerModel" "pastStone" "[I") (by decide +kernel)
  have hw3 := hts (.fieldLink RX10 13 "ParquetLayerModel" "pastFloor" "[J") (by decide +kernel)
  have hw4 := hts (.fieldLink RX10 81 "ParquetLayerModel" "floor" "J") (by decide +kernel)
  have hw5 := hts (.fieldLink RX10 17 "ParquetLayerModel" "pastStones" "[I") (by decide +kernel)
  have hw6 := hts (.fieldLink RX10 85 "ParquetLayerModel" "stones" "I") (by decide +kernel)
  have hw7 := hts (.fieldLink RX10 23 "ParquetLayerModel" "pastLaid" "[Z") (by decide +kernel)
  have hw8 := hts (.fieldLink RX10 88 "ParquetLayerModel" "isLaid" "Z") (by decide +kernel)
  have hw9 := hts (.fieldLink RX10 27 "ParquetLayerModel" "pastAlong" "[J") (by decide +kernel)
  have hw10 := hts (.fieldLink RX10 92 "ParquetLayerModel" "along" "J") (by decide +kernel)
  have hw11 := hts (.fieldLink RX10 30 "ParquetLayerModel" "pastAcross" "[J") (by decide +kernel)
  have hw12 := hts (.fieldLink RX10 95 "ParquetLayerModel" "across" "J") (by decide +kernel)
  have hw13 := hts (.constant RX10 98 (-100006)) (by decide +kernel)
  have hi10 := ihX10_undo_10
  have hD := hD0.self (sz := s.heap.size)
  generalize hAe : va_A (MW cy a J I R RJ) s.heap.size = A at hD ⊢
  have hA : ∀ q : Nat, s.heap.size ≤ q → A q := fun q h => by rw [← hAe]; exact Or.inr h
  have hS : va_S A s.heap s.heap [] := va_S.rf
  have hl := lv_entry ([.ref (a 0)]) (n := 2) (Nat.le_of_ble_eq_true rfl)
  rw [lg_entry_eq]
  generalize (lg_sl ([.ref (a 0)]) ++ List.replicate (2 - (lg_sl ([.ref (a 0)])).length) Slot.unset).toArray = ls at hl ⊢
  have hl : lv_has ls 2 [(0, .ref (a 0))] := hl
  have hP : va_P D vwCl (MW cy a (va_up (va_up (va_up J 0 (J 0)) 4 (J 4)) 5 (J 5)) (va_up (va_up (va_up (va_up I 1 (I 1)) 3 (I 3)) 12 (I 12)) 13 (I 13)) (va_up R 1 (R 1)) RJ) s.heap := hP
  have hD : va_D A (MW cy a (va_up (va_up (va_up J 0 (J 0)) 4 (J 4)) 5 (J 5)) (va_up (va_up (va_up (va_up I 1 (I 1)) 3 (I 3)) 12 (I 12)) 13 (I 13)) (va_up R 1 (R 1)) RJ) := hD
  have lp91 : ∀ (n91 : Nat), ∀ (s8 : Nat) (m0_91 : Int64) (m1_91 : Int64) (m2_91 : Int64) (m3_91 : Int32) (m4_91 : Int32) (m5_91 : Int32) (m6_91 : Int32) (m7_91 : Nat → Int32), (s8 ≤ 20) → (vp_in m3_91 21) → (isB m4_91) → (vp_in m5_91 21) → (vp_in m5_91 20) → (¬ I 12 = 0) → (m0_91 = RJ 2 (I 12 - 1).toNatClampNeg ∧ m3_91 = R 3 (I 12 - 1).toNatClampNeg ∧ m5_91 = I 12 - 1) → (∀ i, i < s8 → m7_91 i = R 4 ((20 : Int32) * m5_91 + nI i).toNatClampNeg) → (20 - s8) < n91 → ∀ (H : Heap) (locs : List Loc), va_P D vwCl (MW cy a (va_up (va_up (va_up J 0 m0_91) 4 m1_91) 5 m2_91) (va_up (va_up (va_up (va_up I 1 m3_91) 3 m4_91) 12 m5_91) 13 m6_91) (va_up R 1 m7_91) RJ) H → va_D A (MW cy a (va_up (va_up (va_up J 0 m0_91) 4 m1_91) 5 m2_91) (va_up (va_up (va_up (va_up I 1 m3_91) 3 m4_91) 12 m5_91) 13 m6_91) (va_up R 1 m7_91) RJ) → va_S A s.heap H locs → ∀ (ls : Array Slot), lv_has ls 2 [(0, .ref (a 0)), (1, .int (nI s8))] → W p l e (headSpec wsX10_undo ({ frames := 1, cells := 0, slots := 0, locals := 21 })).room s m ([.ref (a 0)] : List Value).toArray below meth c H locs 0 0 (MQ below (va_Qi (fun r (u : MS) => ∃ (w0 : Int64), ∃ (w1 : Int64), ∃ (w2 : Int64), ∃ (w3 : Int32), ∃ (w4 : Int32), ∃ (w5 : Int32), ∃ (w6 : Int32), ∃ (w7 : Nat → Int32), (r = (aUndoA P) ∧ (vp_in w3 21) ∧ (isB w4) ∧ (vp_in w5 21) ∧ (RMf w0 w3 w5 w7 (R 3) (R 4) (RJ 2) (aUndoF fl P) (aUndoS S P) (aUndoP P))) ∧ u = ((va_up (va_up (va_up J 0 w0) 4 w1) 5 w2), (va_up (va_up (va_up (va_up I 1 w3) 3 w4) 12 w5) 13 w6), (va_up R 1 w7), RJ)) (BW D A (MWu cy a)) A) ([.ref (a 0)] : List Value).toArray s 0 0 A) (F0 m 91 ls []) := by
    intro n91
    induction n91 with
    | zero => intro s8 m0_91 m1_91 m2_91 m3_91 m4_91 m5_91 m6_91 m7_91 hs8 hm_m3_91 hm_m4_91 hm_m5_91 hk3 hne hu hs1 hn; exact absurd hn (Nat.not_lt_zero _)
    | succ n91 ih91 =>
      intro s8 m0_91 m1_91 m2_91 m3_91 m4_91 m5_91 m6_91 m7_91 hs8 hm_m3_91 hm_m4_91 hm_m5_91 hk3 hne hu hs1 hn91 H locs hP hD hS ls hl
      refine lv_iload_n hx hb dX10_undo_91 rfl (lv_at hl 1 rfl) ?_
      refine lv_bipush (v := 20) hx hb dX10_undo_92 (by decide) ?_
      refine lv_icmp_ge (tgt := 123) hx hb dX10_undo_94 (by decide) (fun c_1 => ?_) (fun c_1 => ?_)
      · have hie8 := ctr_ge (N := 20) (by decide) hs8 c_1
        refine lv_aload_n hx hb dX10_undo_123 rfl (lv_at hl 0 rfl) ?_
        refine va_get (D := D) (ci := 9) (v := .int m5_91) (C := RX10) (T := TX10) (N := 30) hx hb hts hi10 hown hK hP 0 rfl rfl 12 (by decide) hw0 (fun _ h9 => h9) rfl dX10_undo_124 ?_
        exact wret_i hx hb hr hlocks ((va_up (va_up (va_up J 0 m0_91) 4 m1_91) 5 m2_91), (va_up (va_up (va_up (va_up I 1 m3_91) 3 m4_91) 12 m5_91) 13 m6_91), (va_up R 1 m7_91), RJ) ⟨m0_91, m1_91, m2_91, m3_91, m4_91, m5_91, m6_91, m7_91, ⟨(un_end hRA hne hM.2.2.2.1 hie8 hu hs1).2, hm_m3_91, hm_m4_91, hm_m5_91, (un_end hRA hne hM.2.2.2.1 hie8 hu hs1).1⟩, rfl⟩ hP hD hS dX10_undo_127
      · have hlt := ctr_lt (N := 20) (by decide) hs8 c_1
        refine lv_aload_n hx hb dX10_undo_97 rfl (lv_at hl 0 rfl) ?_
        refine va_get (D := D) (ci := 9) (v := .ref (a 1)) (C := RX10) (T := TX10) (N := 30) hx hb hts hi10 hown hK hP 0 rfl rfl 2 (by decide) hw1 (fun _ h9 => h9) rfl dX10_undo_98 ?_
        refine lv_iload_n hx hb dX10_undo_101 rfl (lv_at hl 1 rfl) ?_
        refine lv_aload_n hx hb dX10_undo_102 rfl (lv_at hl 0 rfl) ?_
        refine va_get (D := D) (ci := 9) (v := .ref (a 4)) (C := RX10) (T := TX10) (N := 30) hx hb hts hi10 hown hK hP 0 rfl rfl 8 (by decide) hw2 (fun _ h9 => h9) rfl dX10_undo_103 ?_
        refine lv_bipush (v := 20) hx hb dX10_undo_106 (by decide) ?_
        refine lv_aload_n hx hb dX10_undo_108 rfl (lv_at hl 0 rfl) ?_
        refine va_get (D := D) (ci := 9) (v := .int m5_91) (C := RX10) (T := TX10) (N := 30) hx hb hts hi10 hown hK hP 0 rfl rfl 12 (by decide) hw0 (fun _ h9 => h9) rfl dX10_undo_109 ?_
        refine lv_imul hx hb dX10_undo_112 ?_
        refine lv_iload_n hx hb dX10_undo_113 rfl (lv_at hl 1 rfl) ?_
        refine lv_iadd hx hb dX10_undo_114 ?_
        refine va_iald hx hb hK hP 4 0 rfl rfl (ix20b hk3 hlt) dX10_undo_115 ?_
        refine va_iast hx hb hK hP hD hS 1 0 rfl rfl (vp_in_nI (by omega) (by decide)) dX10_undo_116 (fun H locs hP hD hS => ?_)
        have hP : va_P D vwCl (MW cy a (va_up (va_up (va_up J 0 m0_91) 4 m1_91) 5 m2_91) (va_up (va_up (va_up (va_up I 1 m3_91) 3 m4_91) 12 m5_91) 13 m6_91) (va_up R 1 (upd m7_91 (nI s8).toNatClampNeg ((R 4) ((20 * m5_91) + (nI s8)).toNatClampNeg))) RJ) H := hP
        have hD : va_D A (MW cy a (va_up (va_up (va_up J 0 m0_91) 4 m1_91) 5 m2_91) (va_up (va_up (va_up (va_up I 1 m3_91) 3 m4_91) 12 m5_91) 13 m6_91) (va_up R 1 (upd m7_91 (nI s8).toNatClampNeg ((R 4) ((20 * m5_91) + (nI s8)).toNatClampNeg))) RJ) := hD
        refine lv_iinc (v := nI (s8 + 1)) (lv' := [(1, .int (nI (s8 + 1))), (0, .ref (a 0))]) hx hb dX10_undo_117 hl (k := 1) rfl (nI_1 _) (by decide) rfl (fun ls hl => ?_)
        refine lv_goto (tgt := 91) hx hb dX10_undo_120 (by decide) ?_
        exact ih91 (s8 + 1) m0_91 m1_91 m2_91 m3_91 m4_91 m5_91 m6_91 (upd m7_91 (nI s8).toNatClampNeg ((R 4) ((20 * m5_91) + (nI s8)).toNatClampNeg)) (by omega) hm_m3_91 hm_m4_91 hm_m5_91 hk3 hne hu (und_s hlt hs1) (by omega) _ _ hP hD hS ls (lv_sub hl [1, 0] rfl)
  refine lv_aload_n hx hb dX10_undo_0 rfl (lv_at hl 0 rfl) ?_
  refine va_get (D := D) (ci := 9) (v := .int (I 12)) (C := RX10) (T := TX10) (N := 30) hx hb hts hi10 hown hK hP 0 rfl rfl 12 (by decide) hw0 (fun _ h9 => h9) rfl dX10_undo_1 ?_
  refine lv_if_ne (tgt := 14) hx hb dX10_undo_4 (by decide) (fun c_2 => ?_) (fun c_2 => ?_)
  · refine lv_aload_n hx hb dX10_undo_14 rfl (lv_at hl 0 rfl) ?_
    refine lv_dup hx hb dX10_undo_15 rfl ?_
    refine va_get (D := D) (ci := 9) (v := .int (I 12)) (C := RX10) (T := TX10) (N := 30) hx hb hts hi10 hown hK hP 0 rfl rfl 12 (by decide) hw0 (fun _ h9 => h9) rfl dX10_undo_16 ?_
    refine lv_iconst (v := 1) hx hb dX10_undo_19 (by decide) ?_
    refine lv_isub hx hb dX10_undo_20 ?_
    refine va_put (D := D) (ci := 9) (v := .int ((I 12) - 1)) (ty := .int) (C := RX10) (T := TX10) (N := 30) hx hb hts hi10 tyX10 tyX10_ok nmX10 hown hK hP hD hS 0 rfl rfl 12 (by decide) hw0 (fun _ h9 => h9) rfl (by decide +kernel) rfl rfl (Nat.le_of_ble_eq_true rfl) dX10_undo_21 (fun H locs hP hD hS => ?_)
    have hP : va_P D vwCl (MW cy a (va_up (va_up (va_up J 0 (J 0)) 4 (J 4)) 5 (J 5)) (va_up (va_up (va_up (va_up I 1 (I 1)) 3 (I 3)) 12 ((I 12) - 1)) 13 (I 13)) (va_up R 1 (R 1)) RJ) H := hP
    have hD : va_D A (MW cy a (va_up (va_up (va_up J 0 (J 0)) 4 (J 4)) 5 (J 5)) (va_up (va_up (va_up (va_up I 1 (I 1)) 3 (I 3)) 12 ((I 12) - 1)) 13 (I 13)) (va_up R 1 (R 1)) RJ) := hD
    have hi_3 : vp_in ((I 12) - 1) 21 := in_up (in_pred hM.2.2.1 c_2)
    refine lv_aload_n hx hb dX10_undo_24 rfl (lv_at hl 0 rfl) ?_
    refine lv_aload_n hx hb dX10_undo_25 rfl (lv_at hl 0 rfl) ?_
    refine va_get (D := D) (ci := 9) (v := .ref (a 2)) (C := RX10) (T := TX10) (N := 30) hx hb hts hi10 hown hK hP 0 rfl rfl 6 (by decide) hw3 (fun _ h9 => h9) rfl dX10_undo_26 ?_
    refine lv_aload_n hx hb dX10_undo_29 rfl (lv_at hl 0 rfl) ?_
    refine va_get (D := D) (ci := 9) (v := .int ((I 12) - 1)) (C := RX10) (T := TX10) (N := 30) hx hb hts hi10 hown hK hP 0 rfl rfl 12 (by decide) hw0 (fun _ h9 => h9) rfl dX10_undo_30 ?_
    refine va_lald hx hb hK hP 2 1 rfl rfl (in_pred hM.2.2.1 c_2) dX10_undo_33 ?_
    refine va_put (D := D) (ci := 9) (v := .long ((RJ 2) ((I 12) - 1).toNatClampNeg)) (ty := .long) (C := RX10) (T := TX10) (N := 30) hx hb hts hi10 tyX10 tyX10_ok nmX10 hown hK hP hD hS 0 rfl rfl 0 (by decide) hw4 (fun _ h9 => h9) rfl (by decide +kernel) rfl rfl (Nat.le_of_ble_eq_true rfl) dX10_undo_34 (fun H locs hP hD hS => ?_)
    have hP : va_P D vwCl (MW cy a (va_up (va_up (va_up J 0 ((RJ 2) ((I 12) - 1).toNatClampNeg)) 4 (J 4)) 5 (J 5)) (va_up (va_up (va_up (va_up I 1 (I 1)) 3 (I 3)) 12 ((I 12) - 1)) 13 (I 13)) (va_up R 1 (R 1)) RJ) H := hP
    have hD : va_D A (MW cy a (va_up (va_up (va_up J 0 ((RJ 2) ((I 12) - 1).toNatClampNeg)) 4 (J 4)) 5 (J 5)) (va_up (va_up (va_up (va_up I 1 (I 1)) 3 (I 3)) 12 ((I 12) - 1)) 13 (I 13)) (va_up R 1 (R 1)) RJ) := hD
    refine lv_aload_n hx hb dX10_undo_37 rfl (lv_at hl 0 rfl) ?_
    refine lv_aload_n hx hb dX10_undo_38 rfl (lv_at hl 0 rfl) ?_
    refine va_get (D := D) (ci := 9) (v := .ref (a 3)) (C := RX10) (T := TX10) (N := 30) hx hb hts hi10 hown hK hP 0 rfl rfl 7 (by decide) hw5 (fun _ h9 => h9) rfl dX10_undo_39 ?_
    refine lv_aload_n hx hb dX10_undo_42 rfl (lv_at hl 0 rfl) ?_
    refine va_get (D := D) (ci := 9) (v := .int ((I 12) - 1)) (C := RX10) (T := TX10) (N := 30) hx hb hts hi10 hown hK hP 0 rfl rfl 12 (by decide) hw0 (fun _ h9 => h9) rfl dX10_undo_43 ?_
    refine va_iald hx hb hK hP 3 0 rfl rfl (in_pred hM.2.2.1 c_2) dX10_undo_46 ?_
    refine va_put (D := D) (ci := 9) (v := .int ((R 3) ((I 12) - 1).toNatClampNeg)) (ty := .int) (C := RX10) (T := TX10) (N := 30) hx hb hts hi10 tyX10 tyX10_ok nmX10 hown hK hP hD hS 0 rfl rfl 1 (by decide) hw6 (fun _ h9 => h9) rfl (by decide +kernel) rfl rfl (Nat.le_of_ble_eq_true rfl) dX10_undo_47 (fun H locs hP hD hS => ?_)
    have hP : va_P D vwCl (MW cy a (va_up (va_up (va_up J 0 ((RJ 2) ((I 12) - 1).toNatClampNeg)) 4 (J 4)) 5 (J 5)) (va_up (va_up (va_up (va_up I 1 ((R 3) ((I 12) - 1).toNatClampNeg)) 3 (I 3)) 12 ((I 12) - 1)) 13 (I 13)) (va_up R 1 (R 1)) RJ) H := hP
    have hD : va_D A (MW cy a (va_up (va_up (va_up J 0 ((RJ 2) ((I 12) - 1).toNatClampNeg)) 4 (J 4)) 5 (J 5)) (va_up (va_up (va_up (va_up I 1 ((R 3) ((I 12) - 1).toNatClampNeg)) 3 (I 3)) 12 ((I 12) - 1)) 13 (I 13)) (va_up R 1 (R 1)) RJ) := hD
    have hi_4 : vp_in ((R 3) ((I 12) - 1).toNatClampNeg) 21 := hM.2.2.2.1 _ (in_lt (in_pred hM.2.2.1 c_2))
    refine lv_aload_n hx hb dX10_undo_50 rfl (lv_at hl 0 rfl) ?_
    refine lv_aload_n hx hb dX10_undo_51 rfl (lv_at hl 0 rfl) ?_
    refine va_get (D := D) (ci := 9) (v := .ref (a 5)) (C := RX10) (T := TX10) (N := 30) hx hb hts hi10 hown hK hP 0 rfl rfl 9 (by decide) hw7 (fun _ h9 => h9) rfl dX10_undo_52 ?_
    refine lv_aload_n hx hb dX10_undo_55 rfl (lv_at hl 0 rfl) ?_
    refine va_get (D := D) (ci := 9) (v := .int ((I 12) - 1)) (C := RX10) (T := TX10) (N := 30) hx hb hts hi10 hown hK hP 0 rfl rfl 12 (by decide) hw0 (fun _ h9 => h9) rfl dX10_undo_56 ?_
    refine va_zald hx hb hK hP 5 2 rfl rfl (in_pred hM.2.2.1 c_2) dX10_undo_59 ?_
    refine va_put (D := D) (ci := 9) (v := .int ((R 5) ((I 12) - 1).toNatClampNeg)) (ty := .boolean) (C := RX10) (T := TX10) (N := 30) hx hb hts hi10 tyX10 tyX10_ok nmX10 hown hK hP hD hS 0 rfl rfl 3 (by decide) hw8 (fun _ h9 => h9) rfl (by decide +kernel) (isB_nar (hM.2.2.2.2.1 _ (in_lt (in_pred hM.2.2.1 c_2)))) (isB_fit (hM.2.2.2.2.1 _ (in_lt (in_pred hM.2.2.1 c_2)))) (Nat.le_of_ble_eq_true rfl) dX10_undo_60 (fun H locs hP hD hS => ?_)
    have hP : va_P D vwCl (MW cy a (va_up (va_up (va_up J 0 ((RJ 2) ((I 12) - 1).toNatClampNeg)) 4 (J 4)) 5 (J 5)) (va_up (va_up (va_up (va_up I 1 ((R 3) ((I 12) - 1).toNatClampNeg)) 3 ((R 5) ((I 12) - 1).toNatClampNeg)) 12 ((I 12) - 1)) 13 (I 13)) (va_up R 1 (R 1)) RJ) H := hP
    have hD : va_D A (MW cy a (va_up (va_up (va_up J 0 ((RJ 2) ((I 12) - 1).toNatClampNeg)) 4 (J 4)) 5 (J 5)) (va_up (va_up (va_up (va_up I 1 ((R 3) ((I 12) - 1).toNatClampNeg)) 3 ((R 5) ((I 12) - 1).toNatClampNeg)) 12 ((I 12) - 1)) 13 (I 13)) (va_up R 1 (R 1)) RJ) := hD
    have hi_5 : isB ((R 5) ((I 12) - 1).toNatClampNeg) := hM.2.2.2.2.1 _ (in_lt (in_pred hM.2.2.1 c_2))
    refine lv_aload_n hx hb dX10_undo_63 rfl (lv_at hl 0 rfl) ?_
    refine lv_aload_n hx hb dX10_undo_64 rfl (lv_at hl 0 rfl) ?_
    refine va_get (D := D) (ci := 9) (v := .ref (a 6)) (C := RX10) (T := TX10) (N := 30) hx hb hts hi10 hown hK hP 0 rfl rfl 10 (by decide) hw9 (fun _ h9 => h9) rfl dX10_undo_65 ?_
    refine lv_aload_n hx hb dX10_undo_68 rfl (lv_at hl 0 rfl) ?_
    refine va_get (D := D) (ci := 9) (v := .int ((I 12) - 1)) (C := RX10) (T := TX10) (N := 30) hx hb hts hi10 hown hK hP 0 rfl rfl 12 (by decide) hw0 (fun _ h9 => h9) rfl dX10_undo_69 ?_
    refine va_lald hx hb hK hP 6 1 rfl rfl (in_pred hM.2.2.1 c_2) dX10_undo_72 ?_
    refine va_put (D := D) (ci := 9) (v := .long ((RJ 6) ((I 12) - 1).toNatClampNeg)) (ty := .long) (C := RX10) (T := TX10) (N := 30) hx hb hts hi10 tyX10 tyX10_ok nmX10 hown hK hP hD hS 0 rfl rfl 4 (by decide) hw10 (fun _ h9 => h9) rfl (by decide +kernel) rfl rfl (Nat.le_of_ble_eq_true rfl) dX10_undo_73 (fun H locs hP hD hS => ?_)
    have hP : va_P D vwCl (MW cy a (va_up (va_up (va_up J 0 ((RJ 2) ((I 12) - 1).toNatClampNeg)) 4 ((RJ 6) ((I 12) - 1).toNatClampNeg)) 5 (J 5)) (va_up (va_up (va_up (va_up I 1 ((R 3) ((I 12) - 1).toNatClampNeg)) 3 ((R 5) ((I 12) - 1).toNatClampNeg)) 12 ((I 12) - 1)) 13 (I 13)) (va_up R 1 (R 1)) RJ) H := hP
    have hD : va_D A (MW cy a (va_up (va_up (va_up J 0 ((RJ 2) ((I 12) - 1).toNatClampNeg)) 4 ((RJ 6) ((I 12) - 1).toNatClampNeg)) 5 (J 5)) (va_up (va_up (va_up (va_up I 1 ((R 3) ((I 12) - 1).toNatClampNeg)) 3 ((R 5) ((I 12) - 1).toNatClampNeg)) 12 ((I 12) - 1)) 13 (I 13)) (va_up R 1 (R 1)) RJ) := hD
    refine lv_aload_n hx hb dX10_undo_76 rfl (lv_at hl 0 rfl) ?_
    refine lv_aload_n hx hb dX10_undo_77 rfl (lv_at hl 0 rfl) ?_
    refine va_get (D := D) (ci := 9) (v := .ref (a 7)) (C := RX10) (T := TX10) (N := 30) hx hb hts hi10 hown hK hP 0 rfl rfl 11 (by decide) hw11 (fun _ h9 => h9) rfl dX10_undo_78 ?_
    refine lv_aload_n hx hb dX10_undo_81 rfl (lv_at hl 0 rfl) ?_
    refine va_get (D := D) (ci := 9) (v := .int ((I 12) - 1)) (C := RX10) (T := TX10) (N := 30) hx hb hts hi10 hown hK hP 0 rfl rfl 12 (by decide) hw0 (fun _ h9 => h9) rfl dX10_undo_82 ?_
    refine va_lald hx hb hK hP 7 1 rfl rfl (in_pred hM.2.2.1 c_2) dX10_undo_85 ?_
    refine va_put (D := D) (ci := 9) (v := .long ((RJ 7) ((I 12) - 1).toNatClampNeg)) (ty := .long) (C := RX10) (T := TX10) (N := 30) hx hb hts hi10 tyX10 tyX10_ok nmX10 hown hK hP hD hS 0 rfl rfl 5 (by decide) hw12 (fun _ h9 => h9) rfl (by decide +kernel) rfl rfl (Nat.le_of_ble_eq_true rfl) dX10_undo_86 (fun H locs hP hD hS => ?_)
    have hP : va_P D vwCl (MW cy a (va_up (va_up (va_up J 0 ((RJ 2) ((I 12) - 1).toNatClampNeg)) 4 ((RJ 6) ((I 12) - 1).toNatClampNeg)) 5 ((RJ 7) ((I 12) - 1).toNatClampNeg)) (va_up (va_up (va_up (va_up I 1 ((R 3) ((I 12) - 1).toNatClampNeg)) 3 ((R 5) ((I 12) - 1).toNatClampNeg)) 12 ((I 12) - 1)) 13 (I 13)) (va_up R 1 (R 1)) RJ) H := hP
    have hD : va_D A (MW cy a (va_up (va_up (va_up J 0 ((RJ 2) ((I 12) - 1).toNatClampNeg)) 4 ((RJ 6) ((I 12) - 1).toNatClampNeg)) 5 ((RJ 7) ((I 12) - 1).toNatClampNeg)) (va_up (va_up (va_up (va_up I 1 ((R 3) ((I 12) - 1).toNatClampNeg)) 3 ((R 5) ((I 12) - 1).toNatClampNeg)) 12 ((I 12) - 1)) 13 (I 13)) (va_up R 1 (R 1)) RJ) := hD
    refine lv_iconst (v := 0) hx hb dX10_undo_89 (by decide) ?_
    refine lv_istore_n (lv' := [(1, .int 0), (0, .ref (a 0))]) hx hb dX10_undo_90 rfl hl (by decide) rfl (fun ls hl => ?_)
    exact lp91 _ 0 ((RJ 2) ((I 12) - 1).toNatClampNeg) ((RJ 6) ((I 12) - 1).toNatClampNeg) ((RJ 7) ((I 12) - 1).toNatClampNeg) ((R 3) ((I 12) - 1).toNatClampNeg) ((R 5) ((I 12) - 1).toNatClampNeg) ((I 12) - 1) (I 13) (R 1) (by omega) hi_4 hi_5 hi_3 (in_pred hM.2.2.1 c_2) c_2 ⟨rfl, rfl, rfl⟩ (fun i h => absurd h (Nat.not_lt_zero _)) (Nat.lt_succ_self _) _ _ hP hD hS ls (lv_sub hl [1, 0] rfl)
  · refine lv_aload_n hx hb dX10_undo_7 rfl (lv_at hl 0 rfl) ?_
    refine lv_ldc (v := (-100006)) hx hb hown hw13 dX10_undo_8 ?_
    refine kM_i (As := [.int (-100006)]) (rest := []) (q0 := 0) ⟨hx, hb, hml, hown, hts⟩ (c_X10_finding l D cy a _ (va_up (va_up (va_up J 0 (J 0)) 4 (J 4)) 5 (J 5)) (va_up (va_up (va_up (va_up I 1 (I 1)) 3 (I 3)) 12 (I 12)) 13 (I 13)) (va_up R 1 (R 1)) RJ (-100006) ) (cwV 1 hts gX10_undo_X10_finding rfl rfl rfl (by decide +kernel) ⟨Nat.le_of_ble_eq_true rfl, Nat.le_of_ble_eq_true rfl⟩) hK hN hP hD hS hA rfl rfl rfl hl.1 rfl (Nat.le_of_ble_eq_true rfl) dX10_undo_10 ⟨Nat.le_of_ble_eq_true rfl, Nat.le_of_ble_eq_true rfl⟩ (fun r_6 u H locs hw hP hD hS => ?_)
    obtain ⟨rfl, rfl⟩ := hw
    have hP : va_P D vwCl (MW cy a (va_up (va_up (va_up J 0 (J 0)) 4 (J 4)) 5 (J 5)) (va_up (va_up (va_up (va_up I 1 (I 1)) 3 (I 3)) 12 (I 12)) 13 ((I 13) + 1)) (va_up R 1 (R 1)) RJ) H := hP
    have hD : va_D A (MW cy a (va_up (va_up (va_up J 0 (J 0)) 4 (J 4)) 5 (J 5)) (va_up (va_up (va_up (va_up I 1 (I 1)) 3 (I 3)) 12 (I 12)) 13 ((I 13) + 1)) (va_up R 1 (R 1)) RJ) := hD
    exact wret_i hx hb hr hlocks ((va_up (va_up (va_up J 0 (J 0)) 4 (J 4)) 5 (J 5)), (va_up (va_up (va_up (va_up I 1 (I 1)) 3 (I 3)) 12 (I 12)) 13 ((I 13) + 1)), (va_up R 1 (R 1)), RJ) ⟨(J 0), (J 4), (J 5), (I 1), (I 3), (I 12), ((I 13) + 1), (R 1), ⟨(un_0 hRA c_2).2, hM.1, hM.2.1, hM.2.2.1, (un_0 hRA c_2).1⟩, rfl⟩ hP hD hS dX10_undo_13
