theorem dX10_stone_116 : decode cX10_stone 116 = .ok (.iload 9, 2) := by decide +kernel
theorem dX10_stone_118 : decode cX10_stone 118 = .ok (.aload_n 0, 1) := by decide +kernel
theorem dX10_stone_119 : decode cX10_stone 119 = .ok (.getfield 85, 3) := by decide +kernel
theorem dX10_stone_122 : decode cX10_stone 122 = .ok (.if_icmp .ge 53, 3) := by decide +kernel
theorem dX10_stone_175 : decode cX10_stone 175 = .ok (.iload_n 1, 1) := by decide +kernel
theorem dX10_stone_176 : decode cX10_stone 176 = .ok (.iconst 3, 1) := by decide +kernel
theorem dX10_stone_177 : decode cX10_stone 177 = .ok (.if_icmp .ne 22, 3) := by decide +kernel
theorem dX10_stone_199 : decode cX10_stone 199 = .ok (.aload_n 0, 1) := by decide +kernel
theorem dX10_stone_200 : decode cX10_stone 200 = .ok (.getfield 85, 3) := by decide +kernel
theorem dX10_stone_203 : decode cX10_stone 203 = .ok (.bipush 20, 2) := by decide +kernel
theorem dX10_stone_205 : decode cX10_stone 205 = .ok (.if_icmp .ne 10, 3) := by decide +kernel
theorem dX10_stone_215 : decode cX10_stone 215 = .ok (.aload_n 0, 1) := by decide +kernel
set_option maxRecDepth 20000 in
theorem ggX10_stone_X10_keep : GoodIn wsX10_stone wsX10_keep := goodIn_r _ [57, 58, 59, 60, 61, 62, 63, 64, 2, 5, 65, 66, 67, 9, 68, 69, 70, 71, 72, 73, 74, 75, 76, 77, 78, 79, 80, 81, 82, 83, 84, 85, 86, 87, 88, 89, 90, 91, 92, 93, 94, 95, 96, 97] rfl (by decide +kernel)
set_option maxRecDepth 20000 in
theorem gX10_stone_X10_keep : GoodIn wsX10_stone (wsV RX10 134 RX10 yX10_keep wsX10_keep) := goodIn_app (goodIn_r _ [54, 55, 56, 12] rfl (by decide +kernel)) ggX10_stone_X10_keep
theorem dX10_stone_216 : decode cX10_stone 216 = .ok (.invokevirtual 134, 3) := by decide +kernel
theorem dX10_stone_219 : decode cX10_stone 219 = .ok (.aload_n 0, 1) := by decide +kernel
theorem dX10_stone_220 : decode cX10_stone 220 = .ok (.getfield 9, 3) := by decide +kernel
theorem dX10_stone_223 : decode cX10_stone 223 = .ok (.aload_n 0, 1) := by decide +kernel
theorem dX10_stone_224 : decode cX10_stone 224 = .ok (.getfield 85, 3) := by decide +kernel
theorem dX10_stone_227 : decode cX10_stone 227 = .ok (.iload_n 1, 1) := by decide +kernel
theorem dX10_stone_228 : decode cX10_stone 228 = .ok (.iload_n 2, 1) := by decide +kernel
theorem dX10_stone_229 : decode cX10_stone 229 = .ok (.iconst 2, 1) := by decide +kernel
theorem dX10_stone_230 : decode cX10_stone 230 = .ok (.ishl, 1) := by decide +kernel
theorem dX10_stone_231 : decode cX10_stone 231 = .ok (.ior, 1) := by decide +kernel
theorem dX10_stone_232 : decode cX10_stone 232 = .ok (.iload_n 3, 1) := by decide +kernel
theorem dX10_stone_233 : decode cX10_stone 233 = .ok (.ifCond .eq 9, 3) := by decide +kernel
theorem dX10_stone_242 : decode cX10_stone 242 = .ok (.iconst 0, 1) := by decide +kernel
theorem dX10_stone_243 : decode cX10_stone 243 = .ok (.ior, 1) := by decide +kernel
theorem dX10_stone_244 : decode cX10_stone 244 = .ok (.iload 4, 2) := by decide +kernel
theorem dX10_stone_246 : decode cX10_stone 246 = .ok (.bipush 9, 2) := by decide +kernel
theorem dX10_stone_248 : decode cX10_stone 248 = .ok (.ishl, 1) := by decide +kernel
theorem dX10_stone_249 : decode cX10_stone 249 = .ok (.ior, 1) := by decide +kernel
theorem dX10_stone_250 : decode cX10_stone 250 = .ok (.iastore, 1) := by decide +kernel
theorem dX10_stone_251 : decode cX10_stone 251 = .ok (.aload_n 0, 1) := by decide +kernel
theorem dX10_stone_252 : decode cX10_stone 252 = .ok (.dup, 1) := by decide +kernel
theorem dX10_stone_253 : decode cX10_stone 253 = .ok (.getfield 85, 3) := by decide +kernel
theorem dX10_stone_256 : decode cX10_stone 256 = .ok (.iconst 1, 1) := by decide +kernel
theorem dX10_stone_257 : decode cX10_stone 257 = .ok (.iadd, 1) := by decide +kernel
theorem dX10_stone_258 : decode cX10_stone 258 = .ok (.putfield 85, 3) := by decide +kernel
theorem dX10_stone_261 : decode cX10_stone 261 = .ok (.aload_n 0, 1) := by decide +kernel
theorem dX10_stone_262 : decode cX10_stone 262 = .ok (.getfield 85, 3) := by decide +kernel
theorem dX10_stone_265 : decode cX10_stone 265 = .ok (.iconst 1, 1) := by decide +kernel
theorem dX10_stone_266 : decode cX10_stone 266 = .ok (.isub, 1) := by decide +kernel
theorem dX10_stone_267 : decode cX10_stone 267 = .ok (.ireturn, 1) := by decide +kernel
theorem dX10_stone_236 : decode cX10_stone 236 = .ok (.sipush 256, 3) := by decide +kernel
theorem dX10_stone_239 : decode cX10_stone 239 = .ok (.goto 4, 3) := by decide +kernel
theorem dX10_stone_208 : decode cX10_stone 208 = .ok (.aload_n 0, 1) := by decide +kernel
theorem dX10_stone_209 : decode cX10_stone 209 = .ok (.ldc 177, 2) := by decide +kernel
set_option maxRecDepth 20000 in
theorem ggX10_stone_X10_finding : GoodIn wsX10_stone wsX10_finding := goodIn_r _ [20, 21, 68, 69, 70, 71, 72, 73, 74, 75, 76, 77, 78, 79, 80, 81, 82, 83, 84, 85, 86, 87, 88, 89, 90, 91, 92, 93, 94, 95, 96, 97] rfl (by decide +kernel)
set_option maxRecDepth 20000 in
theorem gX10_stone_X10_finding : GoodIn wsX10_stone (wsV RX10 99 RX10 yX10_finding wsX10_finding) := goodIn_app (goodIn_r _ [17, 18, 19, 12] rfl (by decide +kernel)) ggX10_stone_X10_finding
theorem dX10_stone_211 : decode cX10_stone 211 = .ok (.invokevirtual 99, 3) := by decide +kernel
theorem dX10_stone_214 : decode cX10_stone 214 = .ok (.ireturn, 1) := by decide +kernel
theorem dX10_stone_180 : decode cX10_stone 180 = .ok (.aload_n 0, 1) := by decide +kernel
theorem dX10_stone_181 : decode cX10_stone 181 = .ok (.getfield 81, 3) := by decide +kernel
theorem dX10_stone_184 : decode cX10_stone 184 = .ok (.iload_n 2, 1) := by decide +kernel
theorem dX10_stone_185 : decode cX10_stone 185 = .ok (.iload_n 3, 1) := by decide +kernel
set_option maxRecDepth 20000 in
theorem ggX10_stone_X10_isAtEdge : GoodIn wsX10_stone wsX10_isAtEdge := goodIn_r _ [44, 45, 46, 12, 47, 48, 49, 50, 10, 11, 13, 51, 52, 53] rfl (by decide +kernel)
set_option maxRecDepth 20000 in
theorem gX10_stone_X10_isAtEdge : GoodIn wsX10_stone (va_wsS RX10 129 yX10_isAtEdge wsX10_isAtEdge) := goodIn_app (goodIn_r _ [42, 43, 12] rfl (by decide +kernel)) ggX10_stone_X10_isAtEdge
theorem dX10_stone_186 : decode cX10_stone 186 = .ok (.invokestatic 129, 3) := by decide +kernel
theorem dX10_stone_189 : decode cX10_stone 189 = .ok (.ifCond .ne 10, 3) := by decide +kernel
theorem dX10_stone_192 : decode cX10_stone 192 = .ok (.aload_n 0, 1) := by decide +kernel
theorem dX10_stone_193 : decode cX10_stone 193 = .ok (.ldc 133, 2) := by decide +kernel
theorem dX10_stone_195 : decode cX10_stone 195 = .ok (.invokevirtual 99, 3) := by decide +kernel
theorem dX10_stone_198 : decode cX10_stone 198 = .ok (.ireturn, 1) := by decide +kernel
theorem dX10_stone_125 : decode cX10_stone 125 = .ok (.iload 8, 2) := by decide +kernel
theorem dX10_stone_127 : decode cX10_stone 127 = .ok (.ifCond .eq 48, 3) := by decide +kernel
theorem dX10_stone_130 : decode cX10_stone 130 = .ok (.aload_n 0, 1) := by decide +kernel
theorem dX10_stone_131 : decode cX10_stone 131 = .ok (.iload 9, 2) := by decide +kernel
set_option maxRecDepth 20000 in
theorem ggX10_stone_X10_isGlued : GoodIn wsX10_stone wsX10_isGlued := goodIn_r _ [29, 30, 31, 32, 12, 33, 9, 68, 69, 70, 71, 72, 73, 74, 75, 76, 77, 78, 79, 80, 81, 82, 83, 84, 85, 86, 87, 88, 89, 90, 91, 92, 93, 94, 95, 96, 97] rfl (by decide +kernel)
set_option maxRecDepth 20000 in
theorem gX10_stone_X10_isGlued : GoodIn wsX10_stone (wsV RX10 157 RX10 yX10_isGlued wsX10_isGlued) := goodIn_app (goodIn_r _ [26, 27, 28, 12] rfl (by decide +kernel)) ggX10_stone_X10_isGlued
theorem dX10_stone_133 : decode cX10_stone 133 = .ok (.invokevirtual 157, 3) := by decide +kernel
theorem dX10_stone_136 : decode cX10_stone 136 = .ok (.ifCond .eq 33, 3) := by decide +kernel
theorem dX10_stone_169 : decode cX10_stone 169 = .ok (.iinc 9 1, 3) := by decide +kernel
theorem dX10_stone_172 : decode cX10_stone 172 = .ok (.goto (-56), 3) := by decide +kernel
theorem dX10_stone_139 : decode cX10_stone 139 = .ok (.aload_n 0, 1) := by decide +kernel
theorem dX10_stone_140 : decode cX10_stone 140 = .ok (.iload 9, 2) := by decide +kernel
set_option maxRecDepth 20000 in
theorem ggX10_stone_X10_fieldOf : GoodIn wsX10_stone wsX10_fieldOf := goodIn_r _ [37, 9, 68, 69, 70, 71, 72, 73, 74, 75, 76, 77, 78, 79, 80, 81, 82, 83, 84, 85, 86, 87, 88, 89, 90, 91, 92, 93, 94, 95, 96, 97] rfl (by decide +kernel)
set_option maxRecDepth 20000 in
theorem gX10_stone_X10_fieldOf : GoodIn wsX10_stone (wsV RX10 115 RX10 yX10_fieldOf wsX10_fieldOf) := goodIn_app (goodIn_r _ [34, 35, 36, 12] rfl (by decide +kernel)) ggX10_stone_X10_fieldOf
theorem dX10_stone_142 : decode cX10_stone 142 = .ok (.invokevirtual 115, 3) := by decide +kernel
theorem dX10_stone_145 : decode cX10_stone 145 = .ok (.aload_n 0, 1) := by decide +kernel
theorem dX10_stone_146 : decode cX10_stone 146 = .ok (.iload 9, 2) := by decide +kernel
set_option maxRecDepth 20000 in
theorem ggX10_stone_X10_isAcross : GoodIn wsX10_stone wsX10_isAcross := goodIn_r _ [41, 9, 68, 69, 70, 71, 72, 73, 74, 75, 76, 77, 78, 79, 80, 81, 82, 83, 84, 85, 86, 87, 88, 89, 90, 91, 92, 93, 94, 95, 96, 97] rfl (by decide +kernel)
set_option maxRecDepth 20000 in
theorem gX10_stone_X10_isAcross : GoodIn wsX10_stone (wsV RX10 118 RX10 yX10_isAcross wsX10_isAcross) := goodIn_app (goodIn_r _ [38, 39, 40, 12] rfl (by decide +kernel)) ggX10_stone_X10_isAcross
theorem dX10_stone_148 : decode cX10_stone 148 = .ok (.invokevirtual 118, 3) := by decide +kernel
set_option maxRecDepth 20000 in
theorem ggX10_stone_X10_place : GoodIn wsX10_stone wsX10_place := goodIn_r _ [24, 25] rfl (by decide +kernel)
set_option maxRecDepth 20000 in
theorem gX10_stone_X10_place : GoodIn wsX10_stone (va_wsS RX10 122 yX10_place wsX10_place) := goodIn_app (goodIn_r _ [22, 23, 12] rfl (by decide +kernel)) ggX10_stone_X10_place
theorem dX10_stone_151 : decode cX10_stone 151 = .ok (.invokestatic 122, 3) := by decide +kernel
theorem dX10_stone_154 : decode cX10_stone 154 = .ok (.lload 6, 2) := by decide +kernel
theorem dX10_stone_156 : decode cX10_stone 156 = .ok (.land, 1) := by decide +kernel
theorem dX10_stone_157 : decode cX10_stone 157 = .ok (.lconst 0, 1) := by decide +kernel
theorem dX10_stone_158 : decode cX10_stone 158 = .ok (.lcmp, 1) := by decide +kernel
theorem dX10_stone_159 : decode cX10_stone 159 = .ok (.ifCond .eq 10, 3) := by decide +kernel
theorem dX10_stone_162 : decode cX10_stone 162 = .ok (.aload_n 0, 1) := by decide +kernel
theorem dX10_stone_163 : decode cX10_stone 163 = .ok (.ldc 128, 2) := by decide +kernel
theorem dX10_stone_165 : decode cX10_stone 165 = .ok (.invokevirtual 99, 3) := by decide +kernel
theorem dX10_stone_168 : decode cX10_stone 168 = .ok (.ireturn, 1) := by decide +kernel
theorem dX10_stone_0 : decode cX10_stone 0 = .ok (.iload_n 1, 1) := by decide +kernel
theorem dX10_stone_1 : decode cX10_stone 1 = .ok (.iconst 0, 1) := by decide +kernel
theorem dX10_stone_2 : decode cX10_stone 2 = .ok (.iconst 3, 1) := by decide +kernel
set_option maxRecDepth 20000 in
theorem ggX10_stone_X10_within : GoodIn wsX10_stone wsX10_within := goodIn_r _ [13] rfl (by decide +kernel)
set_option maxRecDepth 20000 in
theorem gX10_stone_X10_within : GoodIn wsX10_stone (va_wsS RX10 70 yX10_within wsX10_within) := goodIn_app (goodIn_r _ [10, 11, 12] rfl (by decide +kernel)) ggX10_stone_X10_within
theorem dX10_stone_3 : decode cX10_stone 3 = .ok (.invokestatic 70, 3) := by decide +kernel
theorem dX10_stone_6 : decode cX10_stone 6 = .ok (.ifCond .eq 38, 3) := by decide +kernel
theorem dX10_stone_44 : decode cX10_stone 44 = .ok (.iconst 0, 1) := by decide +kernel
theorem dX10_stone_45 : decode cX10_stone 45 = .ok (.istore 5, 2) := by decide +kernel
theorem dX10_stone_47 : decode cX10_stone 47 = .ok (.iload 5, 2) := by decide +kernel
theorem dX10_stone_49 : decode cX10_stone 49 = .ok (.ifCond .ne 10, 3) := by decide +kernel
theorem dX10_stone_52 : decode cX10_stone 52 = .ok (.aload_n 0, 1) := by decide +kernel
theorem dX10_stone_53 : decode cX10_stone 53 = .ok (.ldc 141, 2) := by decide +kernel
theorem dX10_stone_55 : decode cX10_stone 55 = .ok (.invokevirtual 99, 3) := by decide +kernel
theorem dX10_stone_58 : decode cX10_stone 58 = .ok (.ireturn, 1) := by decide +kernel
theorem dX10_stone_9 : decode cX10_stone 9 = .ok (.iload_n 2, 1) := by decide +kernel
set_option maxRecDepth 20000 in
theorem ggX10_stone_X10_isField : GoodIn wsX10_stone wsX10_isField := goodIn_r _ [16, 10, 11, 12, 13] rfl (by decide +kernel)
set_option maxRecDepth 20000 in
theorem gX10_stone_X10_isField : GoodIn wsX10_stone (va_wsS RX10 147 yX10_isField wsX10_isField) := goodIn_app (goodIn_r _ [14, 15, 12] rfl (by decide +kernel)) ggX10_stone_X10_isField
theorem dX10_stone_10 : decode cX10_stone 10 = .ok (.invokestatic 147, 3) := by decide +kernel
theorem dX10_stone_13 : decode cX10_stone 13 = .ok (.ifCond .eq 31, 3) := by decide +kernel
theorem dX10_stone_16 : decode cX10_stone 16 = .ok (.iload_n 1, 1) := by decide +kernel
theorem dX10_stone_17 : decode cX10_stone 17 = .ok (.iconst 2, 1) := by decide +kernel
theorem dX10_stone_18 : decode cX10_stone 18 = .ok (.if_icmp .ne 17, 3) := by decide +kernel
theorem dX10_stone_35 : decode cX10_stone 35 = .ok (.iload 4, 2) := by decide +kernel
theorem dX10_stone_37 : decode cX10_stone 37 = .ok (.ifCond .ne 7, 3) := by decide +kernel
theorem dX10_stone_40 : decode cX10_stone 40 = .ok (.iconst 1, 1) := by decide +kernel
theorem dX10_stone_41 : decode cX10_stone 41 = .ok (.goto 4, 3) := by decide +kernel
theorem dX10_stone_59 : decode cX10_stone 59 = .ok (.iload_n 2, 1) := by decide +kernel
theorem dX10_stone_60 : decode cX10_stone 60 = .ok (.iload_n 3, 1) := by decide +kernel
theorem dX10_stone_61 : decode cX10_stone 61 = .ok (.invokestatic 122, 3) := by decide +kernel
theorem dX10_stone_64 : decode cX10_stone 64 = .ok (.lstore 6, 2) := by decide +kernel
theorem dX10_stone_66 : decode cX10_stone 66 = .ok (.lload 6, 2) := by decide +kernel
theorem dX10_stone_68 : decode cX10_stone 68 = .ok (.lconst 0, 1) := by decide +kernel
theorem dX10_stone_69 : decode cX10_stone 69 = .ok (.lcmp, 1) := by decide +kernel
theorem dX10_stone_70 : decode cX10_stone 70 = .ok (.ifCond .eq 19, 3) := by decide +kernel
theorem dX10_stone_89 : decode cX10_stone 89 = .ok (.aload_n 0, 1) := by decide +kernel
theorem dX10_stone_90 : decode cX10_stone 90 = .ok (.ldc 176, 2) := by decide +kernel
theorem dX10_stone_92 : decode cX10_stone 92 = .ok (.invokevirtual 99, 3) := by decide +kernel
theorem dX10_stone_95 : decode cX10_stone 95 = .ok (.ireturn, 1) := by decide +kernel
theorem dX10_stone_73 : decode cX10_stone 73 = .ok (.lload 6, 2) := by decide +kernel
theorem dX10_stone_75 : decode cX10_stone 75 = .ok (.aload_n 0, 1) := by decide +kernel
theorem dX10_stone_76 : decode cX10_stone 76 = .ok (.getfield 81, 3) := by decide +kernel
theorem dX10_stone_79 : decode cX10_stone 79 = .ok (.ldc2_w 126, 3) := by decide +kernel
theorem dX10_stone_82 : decode cX10_stone 82 = .ok (.lxor, 1) := by decide +kernel
theorem dX10_stone_83 : decode cX10_stone 83 = .ok (.land, 1) := by decide +kernel
theorem dX10_stone_84 : decode cX10_stone 84 = .ok (.lconst 0, 1) := by decide +kernel
theorem dX10_stone_85 : decode cX10_stone 85 = .ok (.lcmp, 1) := by decide +kernel
theorem dX10_stone_86 : decode cX10_stone 86 = .ok (.ifCond .eq 10, 3) := by decide +kernel
theorem dX10_stone_96 : decode cX10_stone 96 = .ok (.iload_n 1, 1) := by decide +kernel
theorem dX10_stone_97 : decode cX10_stone 97 = .ok (.iconst 1, 1) := by decide +kernel
theorem dX10_stone_98 : decode cX10_stone 98 = .ok (.if_icmp .eq 8, 3) := by decide +kernel
theorem dX10_stone_106 : decode cX10_stone 106 = .ok (.iconst 1, 1) := by decide +kernel
theorem dX10_stone_107 : decode cX10_stone 107 = .ok (.goto 4, 3) := by decide +kernel
theorem dX10_stone_111 : decode cX10_stone 111 = .ok (.istore 8, 2) := by decide +kernel
theorem dX10_stone_113 : decode cX10_stone 113 = .ok (.iconst 0, 1) := by decide +kernel
theorem dX10_stone_114 : decode cX10_stone 114 = .ok (.istore 9, 2) := by decide +kernel
theorem dX10_stone_101 : decode cX10_stone 101 = .ok (.iload_n 1, 1) := by decide +kernel
theorem dX10_stone_102 : decode cX10_stone 102 = .ok (.iconst 2, 1) := by decide +kernel
theorem dX10_stone_103 : decode cX10_stone 103 = .ok (.if_icmp .ne 7, 3) := by decide +kernel
theorem dX10_stone_110 : decode cX10_stone 110 = .ok (.iconst 0, 1) := by decide +kernel
theorem dX10_stone_21 : decode cX10_stone 21 = .ok (.iload 4, 2) := by decide +kernel
theorem dX10_stone_23 : decode cX10_stone 23 = .ok (.iconst 1, 1) := by decide +kernel
theorem dX10_stone_24 : decode cX10_stone 24 = .ok (.bipush 99, 2) := by decide +kernel
theorem dX10_stone_26 : decode cX10_stone 26 = .ok (.invokestatic 70, 3) := by decide +kernel
theorem dX10_stone_29 : decode cX10_stone 29 = .ok (.ifCond .eq 15, 3) := by decide +kernel
theorem dX10_stone_32 : decode cX10_stone 32 = .ok (.goto 8, 3) := by decide +kernel
set_option maxRecDepth 20000 in
theorem ihX10_stone_10 : ∀ w ∈ u_ws RX10 TX10 30, w ∈ wsX10_stone := fun _ h => List.mem_cons_of_mem _ (List.mem_append_right _ h)
set_option maxHeartbeats 4000000 in
set_option maxRecDepth 100000 in
theorem x_X10_stone (l : Launch) (D : va_G) (cy : Nat → ClassId) (a : Nat → Nat) (sz : Nat) (J : Nat → Int64) (I : Nat → Int32) (R : Nat → Nat → Int32) (RJ : Nat → Nat → Int64) (x0 : Int32) (x1 : Int32) (x2 : Bool) (x3 : Int32) (fl : Int64) (S : List Int32) (P : List PE) (hRA : RMf (J 0) (I 1) (I 12) (R 1) (R 3) (R 4) (RJ 2) fl S P) (hM : MI I R) : Met l yX10_stone wsX10_stone ({ frames := 4, cells := 0, slots := 0, locals := 92 }) (va_Pc [.ref (a 0), .int x0, .int x1, .int (bI x2), .int x3] (PW D cy sz (MW cy a J I R RJ))) (va_Qi (fun r (u : MS) => ∃ (w0 : Int32), ∃ (w1 : Int32), ∃ (w2 : Int32), ∃ (w3 : Int32), ∃ (w4 : Nat → Int32), ∃ (w5 : Nat → Int32), ∃ (w6 : Nat → Int32), ∃ (w7 : Nat → Int32), ∃ (w8 : Nat → Int64), ∃ (w9 : Nat → Int64), ∃ (w10 : Nat → Int64), (r = (aStoA fl S x0 x1 x2 x3) ∧ (vp_in w0 21) ∧ (isB w1) ∧ (vp_in w2 21) ∧ (∀ i, i < 20 → vp_in (w5 i) 21) ∧ (∀ i, i < 20 → isB (w7 i)) ∧ (RMf (J 0) w0 w2 w4 w5 w6 w8 fl (aStoS fl S x0 x1 x2 x3) (aStoP fl S P x0 x1 x2 x3))) ∧ u = (J, (va_up (va_up (va_up (va_up I 1 w0) 3 w1) 12 w2) 13 w3), (va_up (va_up (va_up (va_up R 1 w4) 3 w5) 4 w6) 5 w7), (va_up (va_up (va_up RJ 2 w8) 6 w9) 7 w10))) (BW D (va_A (MW cy a J I R RJ) sz) (MWu cy a)) (va_A (MW cy a J I R RJ) sz)) 0 0 (va_A (MW cy a J I R RJ) sz) := by
  refine Met.ofW (cc := cX10_stone) (maxL := 10) (ret := (some .int)) (by decide) rfl ?_
  intro p e s m args below meth c s₁ B hml hv
  obtain ⟨rfl, rfl, hP, hK, hN, hD0⟩ := hv
  have hx := B.exec
  have hb := B.bytes
  have hr := B.returns
  have hts := atoms_spec (ws := wsX10_stone) B.pre
  have hown : s.vm.findClass RX10 = some m.cls := findClass_of_methodNamed B.named
  have hlocks := B.notSynchronized
  have hw0 := hts (.fieldLink RX10 85 "ParquetLayerModel" "stones" "I") (by decide +kernel)
  have hw1 := hts (.fieldLink RX10 9 "ParquetLayerModel" "stone" "[I") (by decide +kernel)
  have hw2 := hts (.constant RX10 177 (-100005)) (by decide +kernel)
  have hw3 := hts (.fieldLink RX10 81 "ParquetLayerModel" "floor" "J") (by decide +kernel)
  have hw4 := hts (.constant RX10 133 (-100004)) (by decide +kernel)
  have hw5 := hts (.constant RX10 128 (-100007)) (by decide +kernel)
  have hw6 := hts (.constant RX10 141 (-100001)) (by decide +kernel)
  have hw7 := hts (.constant RX10 176 (-100003)) (by decide +kernel)
  have hw8 := hts (.constantLong RX10 126 (-1)) (by decide +kernel)
  have hi10 := ihX10_stone_10
  have hD := hD0.self (sz := s.heap.size)
  generalize hAe : va_A (MW cy a J I R RJ) s.heap.size = A at hD ⊢
  have hA : ∀ q : Nat, s.heap.size ≤ q → A q := fun q h => by rw [← hAe]; exact Or.inr h
  have hS : va_S A s.heap s.heap [] := va_S.rf
  have hl := lv_entry ([.ref (a 0), .int x0, .int x1, .int (bI x2), .int x3]) (n := 10) (Nat.le_of_ble_eq_true rfl)
  rw [lg_entry_eq]
  generalize (lg_sl ([.ref (a 0), .int x0, .int x1, .int (bI x2), .int x3]) ++ List.replicate (10 - (lg_sl ([.ref (a 0), .int x0, .int x1, .int (bI x2), .int x3])).length) Slot.unset).toArray = ls at hl ⊢
  have hl : lv_has ls 10 [(0, .ref (a 0)), (1, .int x0), (2, .int x1), (3, .int (bI x2)), (4, .int x3)] := hl
  obtain ⟨ns, hns, hI1, hSe⟩ := hRA.2.1
  have hJ := hRA.1
  have hP : va_P D vwCl (MW cy a J (va_up (va_up (va_up (va_up I 1 (I 1)) 3 (I 3)) 12 (I 12)) 13 (I 13)) (va_up (va_up (va_up (va_up R 1 (R 1)) 3 (R 3)) 4 (R 4)) 5 (R 5)) (va_up (va_up (va_up RJ 2 (RJ 2)) 6 (RJ 6)) 7 (RJ 7))) s.heap := hP
  have hD : va_D A (MW cy a J (va_up (va_up (va_up (va_up I 1 (I 1)) 3 (I 3)) 12 (I 12)) 13 (I 13)) (va_up (va_up (va_up (va_up R 1 (R 1)) 3 (R 3)) 4 (R 4)) 5 (R 5)) (va_up (va_up (va_up RJ 2 (RJ 2)) 6 (RJ 6)) 7 (RJ 7))) := hD
  have lp116 : ∀ (n116 : Nat), ∀ (i : Nat) (v8_116 : Int32) (m0_116 : Int32) (m1_116 : Int32) (m2_116 : Int32) (m3_116 : Int32) (m4_116 : Nat → Int32) (m5_116 : Nat → Int32) (m6_116 : Nat → Int32) (m7_116 : Nat → Int32) (m8_116 : Nat → Int64) (m9_116 : Nat → Int64) (m10_116 : Nat → Int64), (i ≤ ns) → (vp_in m0_116 21) → (isB m1_116) → (vp_in m2_116 21) → (∀ i, i < 20 → vp_in (m5_116 i) 21) → (∀ i, i < 20 → isB (m7_116 i)) → (m0_116 = I 1) → (RMf (J 0) m0_116 m2_116 m4_116 m5_116 m6_116 m8_116 fl S P) → (sGood x0 x1 x3 = true) → (¬ m_place x1 x2 = 0) → (m_place x1 x2 &&& (fl ^^^ (-1)) = 0) → (¬ v8_116 = 0 ↔ (x0 = 1 ∨ x0 = 2)) → (S = eL m4_116 ns) → (¬ v8_116 = 0 → ∀ j, j < i → gl (m_place x1 x2) (m4_116 j) = false) → (ns - i) < n116 → ∀ (H : Heap) (locs : List Loc), va_P D vwCl (MW cy a J (va_up (va_up (va_up (va_up I 1 m0_116) 3 m1_116) 12 m2_116) 13 m3_116) (va_up (va_up (va_up (va_up R 1 m4_116) 3 m5_116) 4 m6_116) 5 m7_116) (va_up (va_up (va_up RJ 2 m8_116) 6 m9_116) 7 m10_116)) H → va_D A (MW cy a J (va_up (va_up (va_up (va_up I 1 m0_116) 3 m1_116) 12 m2_116) 13 m3_116) (va_up (va_up (va_up (va_up R 1 m4_116) 3 m5_116) 4 m6_116) 5 m7_116) (va_up (va_up (va_up RJ 2 m8_116) 6 m9_116) 7 m10_116)) → va_S A s.heap H locs → ∀ (ls : Array Slot), lv_has ls 10 [(0, .ref (a 0)), (1, .int x0), (2, .int x1), (3, .int (bI x2)), (4, .int x3), (6, .long (m_place x1 x2)), (8, .int v8_116), (9, .int (nI i))] → W p l e (headSpec wsX10_stone ({ frames := 4, cells := 0, slots := 0, locals := 92 })).room s m ([.ref (a 0), .int x0, .int x1, .int (bI x2), .int x3] : List Value).toArray below meth c H locs 0 0 (MQ below (va_Qi (fun r (u : MS) => ∃ (w0 : Int32), ∃ (w1 : Int32), ∃ (w2 : Int32), ∃ (w3 : Int32), ∃ (w4 : Nat → Int32), ∃ (w5 : Nat → Int32), ∃ (w6 : Nat → Int32), ∃ (w7 : Nat → Int32), ∃ (w8 : Nat → Int64), ∃ (w9 : Nat → Int64), ∃ (w10 : Nat → Int64), (r = (aStoA fl S x0 x1 x2 x3) ∧ (vp_in w0 21) ∧ (isB w1) ∧ (vp_in w2 21) ∧ (∀ i, i < 20 → vp_in (w5 i) 21) ∧ (∀ i, i < 20 → isB (w7 i)) ∧ (RMf (J 0) w0 w2 w4 w5 w6 w8 fl (aStoS fl S x0 x1 x2 x3) (aStoP fl S P x0 x1 x2 x3))) ∧ u = (J, (va_up (va_up (va_up (va_up I 1 w0) 3 w1) 12 w2) 13 w3), (va_up (va_up (va_up (va_up R 1 w4) 3 w5) 4 w6) 5 w7), (va_up (va_up (va_up RJ 2 w8) 6 w9) 7 w10))) (BW D A (MWu cy a)) A) ([.ref (a 0), .int x0, .int x1, .int (bI x2), .int x3] : List Value).toArray s 0 0 A) (F0 m 116 ls []) := by
    intro n116
    induction n116 with
    | zero => intro i v8_116 m0_116 m1_116 m2_116 m3_116 m4_116 m5_116 m6_116 m7_116 m8_116 m9_116 m10_116 hi hm_m0_116 hm_m1_116 hm_m2_116 hm_m5_116 hm_m7_116 hst hRA2 hgd hpl hfp hg hSe2 hNg hn; exact absurd hn (Nat.not_lt_zero _)
    | succ n116 ih116 =>
      intro i v8_116 m0_116 m1_116 m2_116 m3_116 m4_116 m5_116 m6_116 m7_116 m8_116 m9_116 m10_116 hi hm_m0_116 hm_m1_116 hm_m2_116 hm_m5_116 hm_m7_116 hst hRA2 hgd hpl hfp hg hSe2 hNg hn116 H locs hP hD hS ls hl
      refine lv_iload hx hb dX10_stone_116 (lv_at hl 7 rfl) ?_
      refine lv_aload_n hx hb dX10_stone_118 rfl (lv_at hl 0 rfl) ?_
      refine va_get (D := D) (ci := 9) (v := .int m0_116) (C := RX10) (T := TX10) (N := 30) hx hb hts hi10 hown hK hP 0 rfl rfl 1 (by decide) hw0 (fun _ h9 => h9) rfl dX10_stone_119 ?_
      refine lv_icmp_ge (tgt := 175) hx hb dX10_stone_122 (by decide) (fun c_1 => ?_) (fun c_1 => ?_)
      · have hie := ctr_ge (N := ns) (by omega) hi (by rw [← hI1, ← hst]; exact c_1)
        refine lv_iload_n hx hb dX10_stone_175 rfl (lv_at hl 1 rfl) ?_
        refine lv_iconst (v := 3) hx hb dX10_stone_176 (by decide) ?_
        refine lv_icmp_ne (tgt := 199) hx hb dX10_stone_177 (by decide) (fun c_2 => ?_) (fun c_2 => ?_)
        · refine lv_aload_n hx hb dX10_stone_199 rfl (lv_at hl 0 rfl) ?_
          refine va_get (D := D) (ci := 9) (v := .int m0_116) (C := RX10) (T := TX10) (N := 30) hx hb hts hi10 hown hK hP 0 rfl rfl 1 (by decide) hw0 (fun _ h9 => h9) rfl dX10_stone_200 ?_
          refine lv_bipush (v := 20) hx hb dX10_stone_203 (by decide) ?_
          refine lv_icmp_ne (tgt := 215) hx hb dX10_stone_205 (by decide) (fun c_3 => ?_) (fun c_3 => ?_)
          · refine lv_aload_n hx hb dX10_stone_215 rfl (lv_at hl 0 rfl) ?_
            refine kM_v (As := []) (rest := []) (q0 := 0) ⟨hx, hb, hml, hown, hts⟩ (x_X10_keep l D cy a _ J (va_up (va_up (va_up (va_up I 1 m0_116) 3 m1_116) 12 m2_116) 13 m3_116) (va_up (va_up (va_up (va_up R 1 m4_116) 3 m5_116) 4 m6_116) 5 m7_116) (va_up (va_up (va_up RJ 2 m8_116) 6 m9_116) 7 m10_116)  fl S P hRA2 ⟨hm_m0_116, hm_m1_116, hm_m2_116, hm_m5_116, hm_m7_116, hM.2.2.2.2.2⟩) (cwV 0 hts gX10_stone_X10_keep rfl rfl rfl (by decide +kernel) ⟨Nat.le_of_ble_eq_true rfl, Nat.le_of_ble_eq_true rfl⟩) hK hN hP hD hS hA rfl rfl rfl hl.1 rfl (Nat.le_of_ble_eq_true rfl) dX10_stone_216 ⟨Nat.le_of_ble_eq_true rfl, Nat.le_of_ble_eq_true rfl⟩ (fun u H locs hw hP hD hS => ?_)
            obtain ⟨w_5, w_6, w_7, w_8, w_9, w_10, w_11, w_12, ⟨hi_13, hi_14, hi_15, hi_16, hp_17⟩, rfl⟩ := hw
            have hP : va_P D vwCl (MW cy a J (va_up (va_up (va_up (va_up I 1 m0_116) 3 w_5) 12 w_6) 13 m3_116) (va_up (va_up (va_up (va_up R 1 m4_116) 3 w_7) 4 w_8) 5 w_9) (va_up (va_up (va_up RJ 2 w_10) 6 w_11) 7 w_12)) H := hP
            have hD : va_D A (MW cy a J (va_up (va_up (va_up (va_up I 1 m0_116) 3 w_5) 12 w_6) 13 m3_116) (va_up (va_up (va_up (va_up R 1 m4_116) 3 w_7) 4 w_8) 5 w_9) (va_up (va_up (va_up RJ 2 w_10) 6 w_11) 7 w_12)) := hD
            refine lv_aload_n hx hb dX10_stone_219 rfl (lv_at hl 0 rfl) ?_
            refine va_get (D := D) (ci := 9) (v := .ref (a 1)) (C := RX10) (T := TX10) (N := 30) hx hb hts hi10 hown hK hP 0 rfl rfl 2 (by decide) hw1 (fun _ h9 => h9) rfl dX10_stone_220 ?_
            refine lv_aload_n hx hb dX10_stone_223 rfl (lv_at hl 0 rfl) ?_
            refine va_get (D := D) (ci := 9) (v := .int m0_116) (C := RX10) (T := TX10) (N := 30) hx hb hts hi10 hown hK hP 0 rfl rfl 1 (by decide) hw0 (fun _ h9 => h9) rfl dX10_stone_224 ?_
            refine lv_iload_n hx hb dX10_stone_227 rfl (lv_at hl 1 rfl) ?_
            refine lv_iload_n hx hb dX10_stone_228 rfl (lv_at hl 2 rfl) ?_
            refine lv_iconst (v := 2) hx hb dX10_stone_229 (by decide) ?_
            refine lv_ishl hx hb dX10_stone_230 ?_
            refine lv_ior hx hb dX10_stone_231 ?_
            refine lv_iload_n hx hb dX10_stone_232 rfl (lv_at hl 3 rfl) ?_
            refine lv_if_eq (tgt := 242) hx hb dX10_stone_233 (by decide) (fun c_18 => ?_) (fun c_18 => ?_)
            · replace c_18 := bI_f c_18
              refine lv_iconst (v := 0) hx hb dX10_stone_242 (by decide) ?_
              refine lv_ior hx hb dX10_stone_243 ?_
              refine lv_iload hx hb dX10_stone_244 (lv_at hl 4 rfl) ?_
              refine lv_bipush (v := 9) hx hb dX10_stone_246 (by decide) ?_
              refine lv_ishl hx hb dX10_stone_248 ?_
              refine lv_ior hx hb dX10_stone_249 ?_
              refine va_iast hx hb hK hP hD hS 1 0 rfl rfl (in_ne hm_m0_116 c_3) dX10_stone_250 (fun H locs hP hD hS => ?_)
              have hP : va_P D vwCl (MW cy a J (va_up (va_up (va_up (va_up I 1 m0_116) 3 w_5) 12 w_6) 13 m3_116) (va_up (va_up (va_up (va_up R 1 (upd m4_116 m0_116.toNatClampNeg (((x0 ||| (x1 <<< ((2 : Int32) &&& 31))) ||| 0) ||| (x3 <<< ((9 : Int32) &&& 31))))) 3 w_7) 4 w_8) 5 w_9) (va_up (va_up (va_up RJ 2 w_10) 6 w_11) 7 w_12)) H := hP
              have hD : va_D A (MW cy a J (va_up (va_up (va_up (va_up I 1 m0_116) 3 w_5) 12 w_6) 13 m3_116) (va_up (va_up (va_up (va_up R 1 (upd m4_116 m0_116.toNatClampNeg (((x0 ||| (x1 <<< ((2 : Int32) &&& 31))) ||| 0) ||| (x3 <<< ((9 : Int32) &&& 31))))) 3 w_7) 4 w_8) 5 w_9) (va_up (va_up (va_up RJ 2 w_10) 6 w_11) 7 w_12)) := hD
              refine lv_aload_n hx hb dX10_stone_251 rfl (lv_at hl 0 rfl) ?_
              refine lv_dup hx hb dX10_stone_252 rfl ?_
              refine va_get (D := D) (ci := 9) (v := .int m0_116) (C := RX10) (T := TX10) (N := 30) hx hb hts hi10 hown hK hP 0 rfl rfl 1 (by decide) hw0 (fun _ h9 => h9) rfl dX10_stone_253 ?_
              refine lv_iconst (v := 1) hx hb dX10_stone_256 (by decide) ?_
              refine lv_iadd hx hb dX10_stone_257 ?_
              refine va_put (D := D) (ci := 9) (v := .int (m0_116 + 1)) (ty := .int) (C := RX10) (T := TX10) (N := 30) hx hb hts hi10 tyX10 tyX10_ok nmX10 hown hK hP hD hS 0 rfl rfl 1 (by decide) hw0 (fun _ h9 => h9) rfl (by decide +kernel) rfl rfl (Nat.le_of_ble_eq_true rfl) dX10_stone_258 (fun H locs hP hD hS => ?_)
              have hP : va_P D vwCl (MW cy a J (va_up (va_up (va_up (va_up I 1 (m0_116 + 1)) 3 w_5) 12 w_6) 13 m3_116) (va_up (va_up (va_up (va_up R 1 (upd m4_116 m0_116.toNatClampNeg (((x0 ||| (x1 <<< ((2 : Int32) &&& 31))) ||| 0) ||| (x3 <<< ((9 : Int32) &&& 31))))) 3 w_7) 4 w_8) 5 w_9) (va_up (va_up (va_up RJ 2 w_10) 6 w_11) 7 w_12)) H := hP
              have hD : va_D A (MW cy a J (va_up (va_up (va_up (va_up I 1 (m0_116 + 1)) 3 w_5) 12 w_6) 13 m3_116) (va_up (va_up (va_up (va_up R 1 (upd m4_116 m0_116.toNatClampNeg (((x0 ||| (x1 <<< ((2 : Int32) &&& 31))) ||| 0) ||| (x3 <<< ((9 : Int32) &&& 31))))) 3 w_7) 4 w_8) 5 w_9) (va_up (va_up (va_up RJ 2 w_10) 6 w_11) 7 w_12)) := hD
              have hi_19 : vp_in (m0_116 + 1) 21 := in_succ (in_ne hm_m0_116 c_3)
              refine lv_aload_n hx hb dX10_stone_261 rfl (lv_at hl 0 rfl) ?_
              refine va_get (D := D) (ci := 9) (v := .int (m0_116 + 1)) (C := RX10) (T := TX10) (N := 30) hx hb hts hi10 hown hK hP 0 rfl rfl 1 (by decide) hw0 (fun _ h9 => h9) rfl dX10_stone_262 ?_
              refine lv_iconst (v := 1) hx hb dX10_stone_265 (by decide) ?_
              refine lv_isub hx hb dX10_stone_266 ?_
              exact wret_i hx hb hr hlocks (J, (va_up (va_up (va_up (va_up I 1 (m0_116 + 1)) 3 w_5) 12 w_6) 13 m3_116), (va_up (va_up (va_up (va_up R 1 (upd m4_116 m0_116.toNatClampNeg (((x0 ||| (x1 <<< ((2 : Int32) &&& 31))) ||| 0) ||| (x3 <<< ((9 : Int32) &&& 31))))) 3 w_7) 4 w_8) 5 w_9), (va_up (va_up (va_up RJ 2 w_10) 6 w_11) 7 w_12)) ⟨(m0_116 + 1), w_5, w_6, m3_116, (upd m4_116 m0_116.toNatClampNeg (((x0 ||| (x1 <<< ((2 : Int32) &&& 31))) ||| 0) ||| (x3 <<< ((9 : Int32) &&& 31)))), w_7, w_8, w_9, w_10, w_11, w_12, ⟨(stoM_ok (sw6 hgd hpl hfp (nt1 hg hSe2 hie hNg) (fun z => c_2 z.1) (len20n (hst.trans hI1) hSe2 c_3)) (by rw [sCode, if_neg (by rw [c_18]; decide)]) c_3 hp_17).2, hi_19, hi_13, hi_14, hi_15, hi_16, (stoM_ok (sw6 hgd hpl hfp (nt1 hg hSe2 hie hNg) (fun z => c_2 z.1) (len20n (hst.trans hI1) hSe2 c_3)) (by rw [sCode, if_neg (by rw [c_18]; decide)]) c_3 hp_17).1⟩, rfl⟩ hP hD hS dX10_stone_267
            · replace c_18 := bI_t c_18
              refine lv_sipush (v := 256) hx hb dX10_stone_236 (by decide) ?_
              refine lv_goto (tgt := 243) hx hb dX10_stone_239 (by decide) ?_
              refine lv_ior hx hb dX10_stone_243 ?_
              refine lv_iload hx hb dX10_stone_244 (lv_at hl 4 rfl) ?_
              refine lv_bipush (v := 9) hx hb dX10_stone_246 (by decide) ?_
              refine lv_ishl hx hb dX10_stone_248 ?_
              refine lv_ior hx hb dX10_stone_249 ?_
              refine va_iast hx hb hK hP hD hS 1 0 rfl rfl (in_ne hm_m0_116 c_3) dX10_stone_250 (fun H locs hP hD hS => ?_)
              have hP : va_P D vwCl (MW cy a J (va_up (va_up (va_up (va_up I 1 m0_116) 3 w_5) 12 w_6) 13 m3_116) (va_up (va_up (va_up (va_up R 1 (upd m4_116 m0_116.toNatClampNeg (((x0 ||| (x1 <<< ((2 : Int32) &&& 31))) ||| 256) ||| (x3 <<< ((9 : Int32) &&& 31))))) 3 w_7) 4 w_8) 5 w_9) (va_up (va_up (va_up RJ 2 w_10) 6 w_11) 7 w_12)) H := hP
              have hD : va_D A (MW cy a J (va_up (va_up (va_up (va_up I 1 m0_116) 3 w_5) 12 w_6) 13 m3_116) (va_up (va_up (va_up (va_up R 1 (upd m4_116 m0_116.toNatClampNeg (((x0 ||| (x1 <<< ((2 : Int32) &&& 31))) ||| 256) ||| (x3 <<< ((9 : Int32) &&& 31))))) 3 w_7) 4 w_8) 5 w_9) (va_up (va_up (va_up RJ 2 w_10) 6 w_11) 7 w_12)) := hD
              refine lv_aload_n hx hb dX10_stone_251 rfl (lv_at hl 0 rfl) ?_
              refine lv_dup hx hb dX10_stone_252 rfl ?_
              refine va_get (D := D) (ci := 9) (v := .int m0_116) (C := RX10) (T := TX10) (N := 30) hx hb hts hi10 hown hK hP 0 rfl rfl 1 (by decide) hw0 (fun _ h9 => h9) rfl dX10_stone_253 ?_
              refine lv_iconst (v := 1) hx hb dX10_stone_256 (by decide) ?_
              refine lv_iadd hx hb dX10_stone_257 ?_
              refine va_put (D := D) (ci := 9) (v := .int (m0_116 + 1)) (ty := .int) (C := RX10) (T := TX10) (N := 30) hx hb hts hi10 tyX10 tyX10_ok nmX10 hown hK hP hD hS 0 rfl rfl 1 (by decide) hw0 (fun _ h9 => h9) rfl (by decide +kernel) rfl rfl (Nat.le_of_ble_eq_true rfl) dX10_stone_258 (fun H locs hP hD hS => ?_)
              have hP : va_P D vwCl (MW cy a J (va_up (va_up (va_up (va_up I 1 (m0_116 + 1)) 3 w_5) 12 w_6) 13 m3_116) (va_up (va_up (va_up (va_up R 1 (upd m4_116 m0_116.toNatClampNeg (((x0 ||| (x1 <<< ((2 : Int32) &&& 31))) ||| 256) ||| (x3 <<< ((9 : Int32) &&& 31))))) 3 w_7) 4 w_8) 5 w_9) (va_up (va_up (va_up RJ 2 w_10) 6 w_11) 7 w_12)) H := hP
              have hD : va_D A (MW cy a J (va_up (va_up (va_up (va_up I 1 (m0_116 + 1)) 3 w_5) 12 w_6) 13 m3_116) (va_up (va_up (va_up (va_up R 1 (upd m4_116 m0_116.toNatClampNeg (((x0 ||| (x1 <<< ((2 : Int32) &&& 31))) ||| 256) ||| (x3 <<< ((9 : Int32) &&& 31))))) 3 w_7) 4 w_8) 5 w_9) (va_up (va_up (va_up RJ 2 w_10) 6 w_11) 7 w_12)) := hD
              have hi_20 : vp_in (m0_116 + 1) 21 := in_succ (in_ne hm_m0_116 c_3)
              refine lv_aload_n hx hb dX10_stone_261 rfl (lv_at hl 0 rfl) ?_
              refine va_get (D := D) (ci := 9) (v := .int (m0_116 + 1)) (C := RX10) (T := TX10) (N := 30) hx hb hts hi10 hown hK hP 0 rfl rfl 1 (by decide) hw0 (fun _ h9 => h9) rfl dX10_stone_262 ?_
              refine lv_iconst (v := 1) hx hb dX10_stone_265 (by decide) ?_
              refine lv_isub hx hb dX10_stone_266 ?_
              exact wret_i hx hb hr hlocks (J, (va_up (va_up (va_up (va_up I 1 (m0_116 + 1)) 3 w_5) 12 w_6) 13 m3_116), (va_up (va_up (va_up (va_up R 1 (upd m4_116 m0_116.toNatClampNeg (((x0 ||| (x1 <<< ((2 : Int32) &&& 31))) ||| 256) ||| (x3 <<< ((9 : Int32) &&& 31))))) 3 w_7) 4 w_8) 5 w_9), (va_up (va_up (va_up RJ 2 w_10) 6 w_11) 7 w_12)) ⟨(m0_116 + 1), w_5, w_6, m3_116, (upd m4_116 m0_116.toNatClampNeg (((x0 ||| (x1 <<< ((2 : Int32) &&& 31))) ||| 256) ||| (x3 <<< ((9 : Int32) &&& 31)))), w_7, w_8, w_9, w_10, w_11, w_12, ⟨(stoM_ok (sw6 hgd hpl hfp (nt1 hg hSe2 hie hNg) (fun z => c_2 z.1) (len20n (hst.trans hI1) hSe2 c_3)) (by rw [sCode, if_pos c_18]) c_3 hp_17).2, hi_20, hi_13, hi_14, hi_15, hi_16, (stoM_ok (sw6 hgd hpl hfp (nt1 hg hSe2 hie hNg) (fun z => c_2 z.1) (len20n (hst.trans hI1) hSe2 c_3)) (by rw [sCode, if_pos c_18]) c_3 hp_17).1⟩, rfl⟩ hP hD hS dX10_stone_267
          · refine lv_aload_n hx hb dX10_stone_208 rfl (lv_at hl 0 rfl) ?_
            refine lv_ldc (v := (-100005)) hx hb hown hw2 dX10_stone_209 ?_
            refine kM_i (As := [.int (-100005)]) (rest := []) (q0 := 0) ⟨hx, hb, hml, hown, hts⟩ (c_X10_finding l D cy a _ J (va_up (va_up (va_up (va_up I 1 m0_116) 3 m1_116) 12 m2_116) 13 m3_116) (va_up (va_up (va_up (va_up R 1 m4_116) 3 m5_116) 4 m6_116) 5 m7_116) (va_up (va_up (va_up RJ 2 m8_116) 6 m9_116) 7 m10_116) (-100005) ) (cwV 1 hts gX10_stone_X10_finding rfl rfl rfl (by decide +kernel) ⟨Nat.le_of_ble_eq_true rfl, Nat.le_of_ble_eq_true rfl⟩) hK hN hP hD hS hA rfl rfl rfl hl.1 rfl (Nat.le_of_ble_eq_true rfl) dX10_stone_211 ⟨Nat.le_of_ble_eq_true rfl, Nat.le_of_ble_eq_true rfl⟩ (fun r_21 u H locs hw hP hD hS => ?_)
            obtain ⟨rfl, rfl⟩ := hw
            have hP : va_P D vwCl (MW cy a J (va_up (va_up (va_up (va_up I 1 m0_116) 3 m1_116) 12 m2_116) 13 (m3_116 + 1)) (va_up (va_up (va_up (va_up R 1 m4_116) 3 m5_116) 4 m6_116) 5 m7_116) (va_up (va_up (va_up RJ 2 m8_116) 6 m9_116) 7 m10_116)) H := hP
            have hD : va_D A (MW cy a J (va_up (va_up (va_up (va_up I 1 m0_116) 3 m1_116) 12 m2_116) 13 (m3_116 + 1)) (va_up (va_up (va_up (va_up R 1 m4_116) 3 m5_116) 4 m6_116) 5 m7_116) (va_up (va_up (va_up RJ 2 m8_116) 6 m9_116) 7 m10_116)) := hD
            exact wret_i hx hb hr hlocks (J, (va_up (va_up (va_up (va_up I 1 m0_116) 3 m1_116) 12 m2_116) 13 (m3_116 + 1)), (va_up (va_up (va_up (va_up R 1 m4_116) 3 m5_116) 4 m6_116) 5 m7_116), (va_up (va_up (va_up RJ 2 m8_116) 6 m9_116) 7 m10_116)) ⟨m0_116, m1_116, m2_116, (m3_116 + 1), m4_116, m5_116, m6_116, m7_116, m8_116, m9_116, m10_116, ⟨(sto_no (P := P) (sw5 hgd hpl hfp (nt1 hg hSe2 hie hNg) (fun z => c_2 z.1) (len20 hns (hst.trans hI1) hSe2 c_3)) (by decide)).1, hm_m0_116, hm_m1_116, hm_m2_116, hm_m5_116, hm_m7_116, (stoM_no (sw5 hgd hpl hfp (nt1 hg hSe2 hie hNg) (fun z => c_2 z.1) (len20 hns (hst.trans hI1) hSe2 c_3)) (by decide) hRA2)⟩, rfl⟩ hP hD hS dX10_stone_214
        · refine lv_aload_n hx hb dX10_stone_180 rfl (lv_at hl 0 rfl) ?_
          refine va_get (D := D) (ci := 9) (v := .long (J 0)) (C := RX10) (T := TX10) (N := 30) hx hb hts hi10 hown hK hP 0 rfl rfl 0 (by decide) hw3 (fun _ h9 => h9) rfl dX10_stone_181 ?_
          refine lv_iload_n hx hb dX10_stone_184 rfl (lv_at hl 2 rfl) ?_
          refine lv_iload_n hx hb dX10_stone_185 rfl (lv_at hl 3 rfl) ?_
          refine kS_i (As := [.long (J 0), .int x1, .int (bI x2)]) (rest := []) ⟨hx, hb, hml, hown, hts⟩ (c_X10_isAtEdge l (J 0) x1 x2) (va_cwS 3 hts gX10_stone_X10_isAtEdge rfl rfl rfl (by decide +kernel) ⟨Nat.le_of_ble_eq_true rfl, Nat.le_of_ble_eq_true rfl⟩) rfl hl.1 rfl (Nat.le_of_ble_eq_true rfl) dX10_stone_186 ⟨Nat.le_of_ble_eq_true rfl, Nat.le_of_ble_eq_true rfl⟩ ?_
          refine lv_if_ne (tgt := 199) hx hb dX10_stone_189 (by decide) (fun c_22 => ?_) (fun c_22 => ?_)
          · replace c_22 := bI_t c_22
            refine lv_aload_n hx hb dX10_stone_199 rfl (lv_at hl 0 rfl) ?_
            refine va_get (D := D) (ci := 9) (v := .int m0_116) (C := RX10) (T := TX10) (N := 30) hx hb hts hi10 hown hK hP 0 rfl rfl 1 (by decide) hw0 (fun _ h9 => h9) rfl dX10_stone_200 ?_
            refine lv_bipush (v := 20) hx hb dX10_stone_203 (by decide) ?_
            refine lv_icmp_ne (tgt := 215) hx hb dX10_stone_205 (by decide) (fun c_23 => ?_) (fun c_23 => ?_)
            · refine lv_aload_n hx hb dX10_stone_215 rfl (lv_at hl 0 rfl) ?_
              refine kM_v (As := []) (rest := []) (q0 := 0) ⟨hx, hb, hml, hown, hts⟩ (x_X10_keep l D cy a _ J (va_up (va_up (va_up (va_up I 1 m0_116) 3 m1_116) 12 m2_116) 13 m3_116) (va_up (va_up (va_up (va_up R 1 m4_116) 3 m5_116) 4 m6_116) 5 m7_116) (va_up (va_up (va_up RJ 2 m8_116) 6 m9_116) 7 m10_116)  fl S P hRA2 ⟨hm_m0_116, hm_m1_116, hm_m2_116, hm_m5_116, hm_m7_116, hM.2.2.2.2.2⟩) (cwV 0 hts gX10_stone_X10_keep rfl rfl rfl (by decide +kernel) ⟨Nat.le_of_ble_eq_true rfl, Nat.le_of_ble_eq_true rfl⟩) hK hN hP hD hS hA rfl rfl rfl hl.1 rfl (Nat.le_of_ble_eq_true rfl) dX10_stone_216 ⟨Nat.le_of_ble_eq_true rfl, Nat.le_of_ble_eq_true rfl⟩ (fun u H locs hw hP hD hS => ?_)
              obtain ⟨w_25, w_26, w_27, w_28, w_29, w_30, w_31, w_32, ⟨hi_33, hi_34, hi_35, hi_36, hp_37⟩, rfl⟩ := hw
              have hP : va_P D vwCl (MW cy a J (va_up (va_up (va_up (va_up I 1 m0_116) 3 w_25) 12 w_26) 13 m3_116) (va_up (va_up (va_up (va_up R 1 m4_116) 3 w_27) 4 w_28) 5 w_29) (va_up (va_up (va_up RJ 2 w_30) 6 w_31) 7 w_32)) H := hP
              have hD : va_D A (MW cy a J (va_up (va_up (va_up (va_up I 1 m0_116) 3 w_25) 12 w_26) 13 m3_116) (va_up (va_up (va_up (va_up R 1 m4_116) 3 w_27) 4 w_28) 5 w_29) (va_up (va_up (va_up RJ 2 w_30) 6 w_31) 7 w_32)) := hD
              refine lv_aload_n hx hb dX10_stone_219 rfl (lv_at hl 0 rfl) ?_
              refine va_get (D := D) (ci := 9) (v := .ref (a 1)) (C := RX10) (T := TX10) (N := 30) hx hb hts hi10 hown hK hP 0 rfl rfl 2 (by decide) hw1 (fun _ h9 => h9) rfl dX10_stone_220 ?_
              refine lv_aload_n hx hb dX10_stone_223 rfl (lv_at hl 0 rfl) ?_
              refine va_get (D := D) (ci := 9) (v := .int m0_116) (C := RX10) (T := TX10) (N := 30) hx hb hts hi10 hown hK hP 0 rfl rfl 1 (by decide) hw0 (fun _ h9 => h9) rfl dX10_stone_224 ?_
              refine lv_iload_n hx hb dX10_stone_227 rfl (lv_at hl 1 rfl) ?_
              refine lv_iload_n hx hb dX10_stone_228 rfl (lv_at hl 2 rfl) ?_
              refine lv_iconst (v := 2) hx hb dX10_stone_229 (by decide) ?_
              refine lv_ishl hx hb dX10_stone_230 ?_
              refine lv_ior hx hb dX10_stone_231 ?_
              refine lv_iload_n hx hb dX10_stone_232 rfl (lv_at hl 3 rfl) ?_
              refine lv_if_eq (tgt := 242) hx hb dX10_stone_233 (by decide) (fun c_38 => ?_) (fun c_38 => ?_)
              · replace c_38 := bI_f c_38
                refine lv_iconst (v := 0) hx hb dX10_stone_242 (by decide) ?_
                refine lv_ior hx hb dX10_stone_243 ?_
                refine lv_iload hx hb dX10_stone_244 (lv_at hl 4 rfl) ?_
                refine lv_bipush (v := 9) hx hb dX10_stone_246 (by decide) ?_
                refine lv_ishl hx hb dX10_stone_248 ?_
                refine lv_ior hx hb dX10_stone_249 ?_
                refine va_iast hx hb hK hP hD hS 1 0 rfl rfl (in_ne hm_m0_116 c_23) dX10_stone_250 (fun H locs hP hD hS => ?_)
                have hP : va_P D vwCl (MW cy a J (va_up (va_up (va_up (va_up I 1 m0_116) 3 w_25) 12 w_26) 13 m3_116) (va_up (va_up (va_up (va_up R 1 (upd m4_116 m0_116.toNatClampNeg (((x0 ||| (x1 <<< ((2 : Int32) &&& 31))) ||| 0) ||| (x3 <<< ((9 : Int32) &&& 31))))) 3 w_27) 4 w_28) 5 w_29) (va_up (va_up (va_up RJ 2 w_30) 6 w_31) 7 w_32)) H := hP
                have hD : va_D A (MW cy a J (va_up (va_up (va_up (va_up I 1 m0_116) 3 w_25) 12 w_26) 13 m3_116) (va_up (va_up (va_up (va_up R 1 (upd m4_116 m0_116.toNatClampNeg (((x0 ||| (x1 <<< ((2 : Int32) &&& 31))) ||| 0) ||| (x3 <<< ((9 : Int32) &&& 31))))) 3 w_27) 4 w_28) 5 w_29) (va_up (va_up (va_up RJ 2 w_30) 6 w_31) 7 w_32)) := hD
                refine lv_aload_n hx hb dX10_stone_251 rfl (lv_at hl 0 rfl) ?_
                refine lv_dup hx hb dX10_stone_252 rfl ?_
                refine va_get (D := D) (ci := 9) (v := .int m0_116) (C := RX10) (T := TX10) (N := 30) hx hb hts hi10 hown hK hP 0 rfl rfl 1 (by decide) hw0 (fun _ h9 => h9) rfl dX10_stone_253 ?_
                refine lv_iconst (v := 1) hx hb dX10_stone_256 (by decide) ?_
                refine lv_iadd hx hb dX10_stone_257 ?_
                refine va_put (D := D) (ci := 9) (v := .int (m0_116 + 1)) (ty := .int) (C := RX10) (T := TX10) (N := 30) hx hb hts hi10 tyX10 tyX10_ok nmX10 hown hK hP hD hS 0 rfl rfl 1 (by decide) hw0 (fun _ h9 => h9) rfl (by decide +kernel) rfl rfl (Nat.le_of_ble_eq_true rfl) dX10_stone_258 (fun H locs hP hD hS => ?_)
                have hP : va_P D vwCl (MW cy a J (va_up (va_up (va_up (va_up I 1 (m0_116 + 1)) 3 w_25) 12 w_26) 13 m3_116) (va_up (va_up (va_up (va_up R 1 (upd m4_116 m0_116.toNatClampNeg (((x0 ||| (x1 <<< ((2 : Int32) &&& 31))) ||| 0) ||| (x3 <<< ((9 : Int32) &&& 31))))) 3 w_27) 4 w_28) 5 w_29) (va_up (va_up (va_up RJ 2 w_30) 6 w_31) 7 w_32)) H := hP
                have hD : va_D A (MW cy a J (va_up (va_up (va_up (va_up I 1 (m0_116 + 1)) 3 w_25) 12 w_26) 13 m3_116) (va_up (va_up (va_up (va_up R 1 (upd m4_116 m0_116.toNatClampNeg (((x0 ||| (x1 <<< ((2 : Int32) &&& 31))) ||| 0) ||| (x3 <<< ((9 : Int32) &&& 31))))) 3 w_27) 4 w_28) 5 w_29) (va_up (va_up (va_up RJ 2 w_30) 6 w_31) 7 w_32)) := hD
                have hi_39 : vp_in (m0_116 + 1) 21 := in_succ (in_ne hm_m0_116 c_23)
                refine lv_aload_n hx hb dX10_stone_261 rfl (lv_at hl 0 rfl) ?_
                refine va_get (D := D) (ci := 9) (v := .int (m0_116 + 1)) (C := RX10) (T := TX10) (N := 30) hx hb hts hi10 hown hK hP 0 rfl rfl 1 (by decide) hw0 (fun _ h9 => h9) rfl dX10_stone_262 ?_
                refine lv_iconst (v := 1) hx hb dX10_stone_265 (by decide) ?_
                refine lv_isub hx hb dX10_stone_266 ?_
                exact wret_i hx hb hr hlocks (J, (va_up (va_up (va_up (va_up I 1 (m0_116 + 1)) 3 w_25) 12 w_26) 13 m3_116), (va_up (va_up (va_up (va_up R 1 (upd m4_116 m0_116.toNatClampNeg (((x0 ||| (x1 <<< ((2 : Int32) &&& 31))) ||| 0) ||| (x3 <<< ((9 : Int32) &&& 31))))) 3 w_27) 4 w_28) 5 w_29), (va_up (va_up (va_up RJ 2 w_30) 6 w_31) 7 w_32)) ⟨(m0_116 + 1), w_25, w_26, m3_116, (upd m4_116 m0_116.toNatClampNeg (((x0 ||| (x1 <<< ((2 : Int32) &&& 31))) ||| 0) ||| (x3 <<< ((9 : Int32) &&& 31)))), w_27, w_28, w_29, w_30, w_31, w_32, ⟨(stoM_ok (sw6 hgd hpl hfp (nt1 hg hSe2 hie hNg) (fun z => absurd z.2 (by rw [← hRA.1, c_22]; decide)) (len20n (hst.trans hI1) hSe2 c_23)) (by rw [sCode, if_neg (by rw [c_38]; decide)]) c_23 hp_37).2, hi_39, hi_33, hi_34, hi_35, hi_36, (stoM_ok (sw6 hgd hpl hfp (nt1 hg hSe2 hie hNg) (fun z => absurd z.2 (by rw [← hRA.1, c_22]; decide)) (len20n (hst.trans hI1) hSe2 c_23)) (by rw [sCode, if_neg (by rw [c_38]; decide)]) c_23 hp_37).1⟩, rfl⟩ hP hD hS dX10_stone_267
              · replace c_38 := bI_t c_38
                refine lv_sipush (v := 256) hx hb dX10_stone_236 (by decide) ?_
                refine lv_goto (tgt := 243) hx hb dX10_stone_239 (by decide) ?_
                refine lv_ior hx hb dX10_stone_243 ?_
                refine lv_iload hx hb dX10_stone_244 (lv_at hl 4 rfl) ?_
                refine lv_bipush (v := 9) hx hb dX10_stone_246 (by decide) ?_
                refine lv_ishl hx hb dX10_stone_248 ?_
                refine lv_ior hx hb dX10_stone_249 ?_
                refine va_iast hx hb hK hP hD hS 1 0 rfl rfl (in_ne hm_m0_116 c_23) dX10_stone_250 (fun H locs hP hD hS => ?_)
                have hP : va_P D vwCl (MW cy a J (va_up (va_up (va_up (va_up I 1 m0_116) 3 w_25) 12 w_26) 13 m3_116) (va_up (va_up (va_up (va_up R 1 (upd m4_116 m0_116.toNatClampNeg (((x0 ||| (x1 <<< ((2 : Int32) &&& 31))) ||| 256) ||| (x3 <<< ((9 : Int32) &&& 31))))) 3 w_27) 4 w_28) 5 w_29) (va_up (va_up (va_up RJ 2 w_30) 6 w_31) 7 w_32)) H := hP
                have hD : va_D A (MW cy a J (va_up (va_up (va_up (va_up I 1 m0_116) 3 w_25) 12 w_26) 13 m3_116) (va_up (va_up (va_up (va_up R 1 (upd m4_116 m0_116.toNatClampNeg (((x0 ||| (x1 <<< ((2 : Int32) &&& 31))) ||| 256) ||| (x3 <<< ((9 : Int32) &&& 31))))) 3 w_27) 4 w_28) 5 w_29) (va_up (va_up (va_up RJ 2 w_30) 6 w_31) 7 w_32)) := hD
                refine lv_aload_n hx hb dX10_stone_251 rfl (lv_at hl 0 rfl) ?_
                refine lv_dup hx hb dX10_stone_252 rfl ?_
                refine va_get (D := D) (ci := 9) (v := .int m0_116) (C := RX10) (T := TX10) (N := 30) hx hb hts hi10 hown hK hP 0 rfl rfl 1 (by decide) hw0 (fun _ h9 => h9) rfl dX10_stone_253 ?_
                refine lv_iconst (v := 1) hx hb dX10_stone_256 (by decide) ?_
                refine lv_iadd hx hb dX10_stone_257 ?_
                refine va_put (D := D) (ci := 9) (v := .int (m0_116 + 1)) (ty := .int) (C := RX10) (T := TX10) (N := 30) hx hb hts hi10 tyX10 tyX10_ok nmX10 hown hK hP hD hS 0 rfl rfl 1 (by decide) hw0 (fun _ h9 => h9) rfl (by decide +kernel) rfl rfl (Nat.le_of_ble_eq_true rfl) dX10_stone_258 (fun H locs hP hD hS => ?_)
                have hP : va_P D vwCl (MW cy a J (va_up (va_up (va_up (va_up I 1 (m0_116 + 1)) 3 w_25) 12 w_26) 13 m3_116) (va_up (va_up (va_up (va_up R 1 (upd m4_116 m0_116.toNatClampNeg (((x0 ||| (x1 <<< ((2 : Int32) &&& 31))) ||| 256) ||| (x3 <<< ((9 : Int32) &&& 31))))) 3 w_27) 4 w_28) 5 w_29) (va_up (va_up (va_up RJ 2 w_30) 6 w_31) 7 w_32)) H := hP
                have hD : va_D A (MW cy a J (va_up (va_up (va_up (va_up I 1 (m0_116 + 1)) 3 w_25) 12 w_26) 13 m3_116) (va_up (va_up (va_up (va_up R 1 (upd m4_116 m0_116.toNatClampNeg (((x0 ||| (x1 <<< ((2 : Int32) &&& 31))) ||| 256) ||| (x3 <<< ((9 : Int32) &&& 31))))) 3 w_27) 4 w_28) 5 w_29) (va_up (va_up (va_up RJ 2 w_30) 6 w_31) 7 w_32)) := hD
                have hi_40 : vp_in (m0_116 + 1) 21 := in_succ (in_ne hm_m0_116 c_23)
                refine lv_aload_n hx hb dX10_stone_261 rfl (lv_at hl 0 rfl) ?_
                refine va_get (D := D) (ci := 9) (v := .int (m0_116 + 1)) (C := RX10) (T := TX10) (N := 30) hx hb hts hi10 hown hK hP 0 rfl rfl 1 (by decide) hw0 (fun _ h9 => h9) rfl dX10_stone_262 ?_
                refine lv_iconst (v := 1) hx hb dX10_stone_265 (by decide) ?_
                refine lv_isub hx hb dX10_stone_266 ?_
                exact wret_i hx hb hr hlocks (J, (va_up (va_up (va_up (va_up I 1 (m0_116 + 1)) 3 w_25) 12 w_26) 13 m3_116), (va_up (va_up (va_up (va_up R 1 (upd m4_116 m0_116.toNatClampNeg (((x0 ||| (x1 <<< ((2 : Int32) &&& 31))) ||| 256) ||| (x3 <<< ((9 : Int32) &&& 31))))) 3 w_27) 4 w_28) 5 w_29), (va_up (va_up (va_up RJ 2 w_30) 6 w_31) 7 w_32)) ⟨(m0_116 + 1), w_25, w_26, m3_116, (upd m4_116 m0_116.toNatClampNeg (((x0 ||| (x1 <<< ((2 : Int32) &&& 31))) ||| 256) ||| (x3 <<< ((9 : Int32) &&& 31)))), w_27, w_28, w_29, w_30, w_31, w_32, ⟨(stoM_ok (sw6 hgd hpl hfp (nt1 hg hSe2 hie hNg) (fun z => absurd z.2 (by rw [← hRA.1, c_22]; decide)) (len20n (hst.trans hI1) hSe2 c_23)) (by rw [sCode, if_pos c_38]) c_23 hp_37).2, hi_40, hi_33, hi_34, hi_35, hi_36, (stoM_ok (sw6 hgd hpl hfp (nt1 hg hSe2 hie hNg) (fun z => absurd z.2 (by rw [← hRA.1, c_22]; decide)) (len20n (hst.trans hI1) hSe2 c_23)) (by rw [sCode, if_pos c_38]) c_23 hp_37).1⟩, rfl⟩ hP hD hS dX10_stone_267
            · refine lv_aload_n hx hb dX10_stone_208 rfl (lv_at hl 0 rfl) ?_
              refine lv_ldc (v := (-100005)) hx hb hown hw2 dX10_stone_209 ?_
              refine kM_i (As := [.int (-100005)]) (rest := []) (q0 := 0) ⟨hx, hb, hml, hown, hts⟩ (c_X10_finding l D cy a _ J (va_up (va_up (va_up (va_up I 1 m0_116) 3 m1_116) 12 m2_116) 13 m3_116) (va_up (va_up (va_up (va_up R 1 m4_116) 3 m5_116) 4 m6_116) 5 m7_116) (va_up (va_up (va_up RJ 2 m8_116) 6 m9_116) 7 m10_116) (-100005) ) (cwV 1 hts gX10_stone_X10_finding rfl rfl rfl (by decide +kernel) ⟨Nat.le_of_ble_eq_true rfl, Nat.le_of_ble_eq_true rfl⟩) hK hN hP hD hS hA rfl rfl rfl hl.1 rfl (Nat.le_of_ble_eq_true rfl) dX10_stone_211 ⟨Nat.le_of_ble_eq_true rfl, Nat.le_of_ble_eq_true rfl⟩ (fun r_41 u H locs hw hP hD hS => ?_)
              obtain ⟨rfl, rfl⟩ := hw
              have hP : va_P D vwCl (MW cy a J (va_up (va_up (va_up (va_up I 1 m0_116) 3 m1_116) 12 m2_116) 13 (m3_116 + 1)) (va_up (va_up (va_up (va_up R 1 m4_116) 3 m5_116) 4 m6_116) 5 m7_116) (va_up (va_up (va_up RJ 2 m8_116) 6 m9_116) 7 m10_116)) H := hP
              have hD : va_D A (MW cy a J (va_up (va_up (va_up (va_up I 1 m0_116) 3 m1_116) 12 m2_116) 13 (m3_116 + 1)) (va_up (va_up (va_up (va_up R 1 m4_116) 3 m5_116) 4 m6_116) 5 m7_116) (va_up (va_up (va_up RJ 2 m8_116) 6 m9_116) 7 m10_116)) := hD
              exact wret_i hx hb hr hlocks (J, (va_up (va_up (va_up (va_up I 1 m0_116) 3 m1_116) 12 m2_116) 13 (m3_116 + 1)), (va_up (va_up (va_up (va_up R 1 m4_116) 3 m5_116) 4 m6_116) 5 m7_116), (va_up (va_up (va_up RJ 2 m8_116) 6 m9_116) 7 m10_116)) ⟨m0_116, m1_116, m2_116, (m3_116 + 1), m4_116, m5_116, m6_116, m7_116, m8_116, m9_116, m10_116, ⟨(sto_no (P := P) (sw5 hgd hpl hfp (nt1 hg hSe2 hie hNg) (fun z => absurd z.2 (by rw [← hRA.1, c_22]; decide)) (len20 hns (hst.trans hI1) hSe2 c_23)) (by decide)).1, hm_m0_116, hm_m1_116, hm_m2_116, hm_m5_116, hm_m7_116, (stoM_no (sw5 hgd hpl hfp (nt1 hg hSe2 hie hNg) (fun z => absurd z.2 (by rw [← hRA.1, c_22]; decide)) (len20 hns (hst.trans hI1) hSe2 c_23)) (by decide) hRA2)⟩, rfl⟩ hP hD hS dX10_stone_214
          · replace c_22 := bI_f c_22
            refine lv_aload_n hx hb dX10_stone_192 rfl (lv_at hl 0 rfl) ?_
            refine lv_ldc (v := (-100004)) hx hb hown hw4 dX10_stone_193 ?_
            refine kM_i (As := [.int (-100004)]) (rest := []) (q0 := 0) ⟨hx, hb, hml, hown, hts⟩ (c_X10_finding l D cy a _ J (va_up (va_up (va_up (va_up I 1 m0_116) 3 m1_116) 12 m2_116) 13 m3_116) (va_up (va_up (va_up (va_up R 1 m4_116) 3 m5_116) 4 m6_116) 5 m7_116) (va_up (va_up (va_up RJ 2 m8_116) 6 m9_116) 7 m10_116) (-100004) ) (cwV 1 hts gX10_stone_X10_finding rfl rfl rfl (by decide +kernel) ⟨Nat.le_of_ble_eq_true rfl, Nat.le_of_ble_eq_true rfl⟩) hK hN hP hD hS hA rfl rfl rfl hl.1 rfl (Nat.le_of_ble_eq_true rfl) dX10_stone_195 ⟨Nat.le_of_ble_eq_true rfl, Nat.le_of_ble_eq_true rfl⟩ (fun r_42 u H locs hw hP hD hS => ?_)
            obtain ⟨rfl, rfl⟩ := hw
            have hP : va_P D vwCl (MW cy a J (va_up (va_up (va_up (va_up I 1 m0_116) 3 m1_116) 12 m2_116) 13 (m3_116 + 1)) (va_up (va_up (va_up (va_up R 1 m4_116) 3 m5_116) 4 m6_116) 5 m7_116) (va_up (va_up (va_up RJ 2 m8_116) 6 m9_116) 7 m10_116)) H := hP
            have hD : va_D A (MW cy a J (va_up (va_up (va_up (va_up I 1 m0_116) 3 m1_116) 12 m2_116) 13 (m3_116 + 1)) (va_up (va_up (va_up (va_up R 1 m4_116) 3 m5_116) 4 m6_116) 5 m7_116) (va_up (va_up (va_up RJ 2 m8_116) 6 m9_116) 7 m10_116)) := hD
            exact wret_i hx hb hr hlocks (J, (va_up (va_up (va_up (va_up I 1 m0_116) 3 m1_116) 12 m2_116) 13 (m3_116 + 1)), (va_up (va_up (va_up (va_up R 1 m4_116) 3 m5_116) 4 m6_116) 5 m7_116), (va_up (va_up (va_up RJ 2 m8_116) 6 m9_116) 7 m10_116)) ⟨m0_116, m1_116, m2_116, (m3_116 + 1), m4_116, m5_116, m6_116, m7_116, m8_116, m9_116, m10_116, ⟨(sto_no (P := P) (sw4 hgd hpl hfp (nt1 hg hSe2 hie hNg) ⟨c_2, (by rw [← hRA.1]; exact c_22)⟩) (by decide)).1, hm_m0_116, hm_m1_116, hm_m2_116, hm_m5_116, hm_m7_116, (stoM_no (sw4 hgd hpl hfp (nt1 hg hSe2 hie hNg) ⟨c_2, (by rw [← hRA.1]; exact c_22)⟩) (by decide) hRA2)⟩, rfl⟩ hP hD hS dX10_stone_198
      · have hlt := ctr_lt (N := ns) (by omega) hi (by rw [← hI1, ← hst]; exact c_1)
        refine lv_iload hx hb dX10_stone_125 (lv_at hl 6 rfl) ?_
        refine lv_if_eq (tgt := 175) hx hb dX10_stone_127 (by decide) (fun c_43 => ?_) (fun c_43 => ?_)
        · refine lv_iload_n hx hb dX10_stone_175 rfl (lv_at hl 1 rfl) ?_
          refine lv_iconst (v := 3) hx hb dX10_stone_176 (by decide) ?_
          refine lv_icmp_ne (tgt := 199) hx hb dX10_stone_177 (by decide) (fun c_44 => ?_) (fun c_44 => ?_)
          · refine lv_aload_n hx hb dX10_stone_199 rfl (lv_at hl 0 rfl) ?_
            refine va_get (D := D) (ci := 9) (v := .int m0_116) (C := RX10) (T := TX10) (N := 30) hx hb hts hi10 hown hK hP 0 rfl rfl 1 (by decide) hw0 (fun _ h9 => h9) rfl dX10_stone_200 ?_
            refine lv_bipush (v := 20) hx hb dX10_stone_203 (by decide) ?_
            refine lv_icmp_ne (tgt := 215) hx hb dX10_stone_205 (by decide) (fun c_45 => ?_) (fun c_45 => ?_)
            · refine lv_aload_n hx hb dX10_stone_215 rfl (lv_at hl 0 rfl) ?_
              refine kM_v (As := []) (rest := []) (q0 := 0) ⟨hx, hb, hml, hown, hts⟩ (x_X10_keep l D cy a _ J (va_up (va_up (va_up (va_up I 1 m0_116) 3 m1_116) 12 m2_116) 13 m3_116) (va_up (va_up (va_up (va_up R 1 m4_116) 3 m5_116) 4 m6_116) 5 m7_116) (va_up (va_up (va_up RJ 2 m8_116) 6 m9_116) 7 m10_116)  fl S P hRA2 ⟨hm_m0_116, hm_m1_116, hm_m2_116, hm_m5_116, hm_m7_116, hM.2.2.2.2.2⟩) (cwV 0 hts gX10_stone_X10_keep rfl rfl rfl (by decide +kernel) ⟨Nat.le_of_ble_eq_true rfl, Nat.le_of_ble_eq_true rfl⟩) hK hN hP hD hS hA rfl rfl rfl hl.1 rfl (Nat.le_of_ble_eq_true rfl) dX10_stone_216 ⟨Nat.le_of_ble_eq_true rfl, Nat.le_of_ble_eq_true rfl⟩ (fun u H locs hw hP hD hS => ?_)
              obtain ⟨w_47, w_48, w_49, w_50, w_51, w_52, w_53, w_54, ⟨hi_55, hi_56, hi_57, hi_58, hp_59⟩, rfl⟩ := hw
              have hP : va_P D vwCl (MW cy a J (va_up (va_up (va_up (va_up I 1 m0_116) 3 w_47) 12 w_48) 13 m3_116) (va_up (va_up (va_up (va_up R 1 m4_116) 3 w_49) 4 w_50) 5 w_51) (va_up (va_up (va_up RJ 2 w_52) 6 w_53) 7 w_54)) H := hP
              have hD : va_D A (MW cy a J (va_up (va_up (va_up (va_up I 1 m0_116) 3 w_47) 12 w_48) 13 m3_116) (va_up (va_up (va_up (va_up R 1 m4_116) 3 w_49) 4 w_50) 5 w_51) (va_up (va_up (va_up RJ 2 w_52) 6 w_53) 7 w_54)) := hD
              refine lv_aload_n hx hb dX10_stone_219 rfl (lv_at hl 0 rfl) ?_
              refine va_get (D := D) (ci := 9) (v := .ref (a 1)) (C := RX10) (T := TX10) (N := 30) hx hb hts hi10 hown hK hP 0 rfl rfl 2 (by decide) hw1 (fun _ h9 => h9) rfl dX10_stone_220 ?_
              refine lv_aload_n hx hb dX10_stone_223 rfl (lv_at hl 0 rfl) ?_
              refine va_get (D := D) (ci := 9) (v := .int m0_116) (C := RX10) (T := TX10) (N := 30) hx hb hts hi10 hown hK hP 0 rfl rfl 1 (by decide) hw0 (fun _ h9 => h9) rfl dX10_stone_224 ?_
              refine lv_iload_n hx hb dX10_stone_227 rfl (lv_at hl 1 rfl) ?_
              refine lv_iload_n hx hb dX10_stone_228 rfl (lv_at hl 2 rfl) ?_
              refine lv_iconst (v := 2) hx hb dX10_stone_229 (by decide) ?_
              refine lv_ishl hx hb dX10_stone_230 ?_
              refine lv_ior hx hb dX10_stone_231 ?_
              refine lv_iload_n hx hb dX10_stone_232 rfl (lv_at hl 3 rfl) ?_
              refine lv_if_eq (tgt := 242) hx hb dX10_stone_233 (by decide) (fun c_60 => ?_) (fun c_60 => ?_)
              · replace c_60 := bI_f c_60
                refine lv_iconst (v := 0) hx hb dX10_stone_242 (by decide) ?_
                refine lv_ior hx hb dX10_stone_243 ?_
                refine lv_iload hx hb dX10_stone_244 (lv_at hl 4 rfl) ?_
                refine lv_bipush (v := 9) hx hb dX10_stone_246 (by decide) ?_
                refine lv_ishl hx hb dX10_stone_248 ?_
                refine lv_ior hx hb dX10_stone_249 ?_
                refine va_iast hx hb hK hP hD hS 1 0 rfl rfl (in_ne hm_m0_116 c_45) dX10_stone_250 (fun H locs hP hD hS => ?_)
                have hP : va_P D vwCl (MW cy a J (va_up (va_up (va_up (va_up I 1 m0_116) 3 w_47) 12 w_48) 13 m3_116) (va_up (va_up (va_up (va_up R 1 (upd m4_116 m0_116.toNatClampNeg (((x0 ||| (x1 <<< ((2 : Int32) &&& 31))) ||| 0) ||| (x3 <<< ((9 : Int32) &&& 31))))) 3 w_49) 4 w_50) 5 w_51) (va_up (va_up (va_up RJ 2 w_52) 6 w_53) 7 w_54)) H := hP
                have hD : va_D A (MW cy a J (va_up (va_up (va_up (va_up I 1 m0_116) 3 w_47) 12 w_48) 13 m3_116) (va_up (va_up (va_up (va_up R 1 (upd m4_116 m0_116.toNatClampNeg (((x0 ||| (x1 <<< ((2 : Int32) &&& 31))) ||| 0) ||| (x3 <<< ((9 : Int32) &&& 31))))) 3 w_49) 4 w_50) 5 w_51) (va_up (va_up (va_up RJ 2 w_52) 6 w_53) 7 w_54)) := hD
                refine lv_aload_n hx hb dX10_stone_251 rfl (lv_at hl 0 rfl) ?_
                refine lv_dup hx hb dX10_stone_252 rfl ?_
                refine va_get (D := D) (ci := 9) (v := .int m0_116) (C := RX10) (T := TX10) (N := 30) hx hb hts hi10 hown hK hP 0 rfl rfl 1 (by decide) hw0 (fun _ h9 => h9) rfl dX10_stone_253 ?_
                refine lv_iconst (v := 1) hx hb dX10_stone_256 (by decide) ?_
                refine lv_iadd hx hb dX10_stone_257 ?_
                refine va_put (D := D) (ci := 9) (v := .int (m0_116 + 1)) (ty := .int) (C := RX10) (T := TX10) (N := 30) hx hb hts hi10 tyX10 tyX10_ok nmX10 hown hK hP hD hS 0 rfl rfl 1 (by decide) hw0 (fun _ h9 => h9) rfl (by decide +kernel) rfl rfl (Nat.le_of_ble_eq_true rfl) dX10_stone_258 (fun H locs hP hD hS => ?_)
                have hP : va_P D vwCl (MW cy a J (va_up (va_up (va_up (va_up I 1 (m0_116 + 1)) 3 w_47) 12 w_48) 13 m3_116) (va_up (va_up (va_up (va_up R 1 (upd m4_116 m0_116.toNatClampNeg (((x0 ||| (x1 <<< ((2 : Int32) &&& 31))) ||| 0) ||| (x3 <<< ((9 : Int32) &&& 31))))) 3 w_49) 4 w_50) 5 w_51) (va_up (va_up (va_up RJ 2 w_52) 6 w_53) 7 w_54)) H := hP
                have hD : va_D A (MW cy a J (va_up (va_up (va_up (va_up I 1 (m0_116 + 1)) 3 w_47) 12 w_48) 13 m3_116) (va_up (va_up (va_up (va_up R 1 (upd m4_116 m0_116.toNatClampNeg (((x0 ||| (x1 <<< ((2 : Int32) &&& 31))) ||| 0) ||| (x3 <<< ((9 : Int32) &&& 31))))) 3 w_49) 4 w_50) 5 w_51) (va_up (va_up (va_up RJ 2 w_52) 6 w_53) 7 w_54)) := hD
                have hi_61 : vp_in (m0_116 + 1) 21 := in_succ (in_ne hm_m0_116 c_45)
                refine lv_aload_n hx hb dX10_stone_261 rfl (lv_at hl 0 rfl) ?_
                refine va_get (D := D) (ci := 9) (v := .int (m0_116 + 1)) (C := RX10) (T := TX10) (N := 30) hx hb hts hi10 hown hK hP 0 rfl rfl 1 (by decide) hw0 (fun _ h9 => h9) rfl dX10_stone_262 ?_
                refine lv_iconst (v := 1) hx hb dX10_stone_265 (by decide) ?_
                refine lv_isub hx hb dX10_stone_266 ?_
                exact wret_i hx hb hr hlocks (J, (va_up (va_up (va_up (va_up I 1 (m0_116 + 1)) 3 w_47) 12 w_48) 13 m3_116), (va_up (va_up (va_up (va_up R 1 (upd m4_116 m0_116.toNatClampNeg (((x0 ||| (x1 <<< ((2 : Int32) &&& 31))) ||| 0) ||| (x3 <<< ((9 : Int32) &&& 31))))) 3 w_49) 4 w_50) 5 w_51), (va_up (va_up (va_up RJ 2 w_52) 6 w_53) 7 w_54)) ⟨(m0_116 + 1), w_47, w_48, m3_116, (upd m4_116 m0_116.toNatClampNeg (((x0 ||| (x1 <<< ((2 : Int32) &&& 31))) ||| 0) ||| (x3 <<< ((9 : Int32) &&& 31)))), w_49, w_50, w_51, w_52, w_53, w_54, ⟨(stoM_ok (sw6 hgd hpl hfp (nt2 hg c_43) (fun z => c_44 z.1) (len20n (hst.trans hI1) hSe2 c_45)) (by rw [sCode, if_neg (by rw [c_60]; decide)]) c_45 hp_59).2, hi_61, hi_55, hi_56, hi_57, hi_58, (stoM_ok (sw6 hgd hpl hfp (nt2 hg c_43) (fun z => c_44 z.1) (len20n (hst.trans hI1) hSe2 c_45)) (by rw [sCode, if_neg (by rw [c_60]; decide)]) c_45 hp_59).1⟩, rfl⟩ hP hD hS dX10_stone_267
              · replace c_60 := bI_t c_60
                refine lv_sipush (v := 256) hx hb dX10_stone_236 (by decide) ?_
                refine lv_goto (tgt := 243) hx hb dX10_stone_239 (by decide) ?_
                refine lv_ior hx hb dX10_stone_243 ?_
                refine lv_iload hx hb dX10_stone_244 (lv_at hl 4 rfl) ?_
                refine lv_bipush (v := 9) hx hb dX10_stone_246 (by decide) ?_
                refine lv_ishl hx hb dX10_stone_248 ?_
                refine lv_ior hx hb dX10_stone_249 ?_
                refine va_iast hx hb hK hP hD hS 1 0 rfl rfl (in_ne hm_m0_116 c_45) dX10_stone_250 (fun H locs hP hD hS => ?_)
                have hP : va_P D vwCl (MW cy a J (va_up (va_up (va_up (va_up I 1 m0_116) 3 w_47) 12 w_48) 13 m3_116) (va_up (va_up (va_up (va_up R 1 (upd m4_116 m0_116.toNatClampNeg (((x0 ||| (x1 <<< ((2 : Int32) &&& 31))) ||| 256) ||| (x3 <<< ((9 : Int32) &&& 31))))) 3 w_49) 4 w_50) 5 w_51) (va_up (va_up (va_up RJ 2 w_52) 6 w_53) 7 w_54)) H := hP
                have hD : va_D A (MW cy a J (va_up (va_up (va_up (va_up I 1 m0_116) 3 w_47) 12 w_48) 13 m3_116) (va_up (va_up (va_up (va_up R 1 (upd m4_116 m0_116.toNatClampNeg (((x0 ||| (x1 <<< ((2 : Int32) &&& 31))) ||| 256) ||| (x3 <<< ((9 : Int32) &&& 31))))) 3 w_49) 4 w_50) 5 w_51) (va_up (va_up (va_up RJ 2 w_52) 6 w_53) 7 w_54)) := hD
                refine lv_aload_n hx hb dX10_stone_251 rfl (lv_at hl 0 rfl) ?_
                refine lv_dup hx hb dX10_stone_252 rfl ?_
                refine va_get (D := D) (ci := 9) (v := .int m0_116) (C := RX10) (T := TX10) (N := 30) hx hb hts hi10 hown hK hP 0 rfl rfl 1 (by decide) hw0 (fun _ h9 => h9) rfl dX10_stone_253 ?_
                refine lv_iconst (v := 1) hx hb dX10_stone_256 (by decide) ?_
                refine lv_iadd hx hb dX10_stone_257 ?_
                refine va_put (D := D) (ci := 9) (v := .int (m0_116 + 1)) (ty := .int) (C := RX10) (T := TX10) (N := 30) hx hb hts hi10 tyX10 tyX10_ok nmX10 hown hK hP hD hS 0 rfl rfl 1 (by decide) hw0 (fun _ h9 => h9) rfl (by decide +kernel) rfl rfl (Nat.le_of_ble_eq_true rfl) dX10_stone_258 (fun H locs hP hD hS => ?_)
                have hP : va_P D vwCl (MW cy a J (va_up (va_up (va_up (va_up I 1 (m0_116 + 1)) 3 w_47) 12 w_48) 13 m3_116) (va_up (va_up (va_up (va_up R 1 (upd m4_116 m0_116.toNatClampNeg (((x0 ||| (x1 <<< ((2 : Int32) &&& 31))) ||| 256) ||| (x3 <<< ((9 : Int32) &&& 31))))) 3 w_49) 4 w_50) 5 w_51) (va_up (va_up (va_up RJ 2 w_52) 6 w_53) 7 w_54)) H := hP
                have hD : va_D A (MW cy a J (va_up (va_up (va_up (va_up I 1 (m0_116 + 1)) 3 w_47) 12 w_48) 13 m3_116) (va_up (va_up (va_up (va_up R 1 (upd m4_116 m0_116.toNatClampNeg (((x0 ||| (x1 <<< ((2 : Int32) &&& 31))) ||| 256) ||| (x3 <<< ((9 : Int32) &&& 31))))) 3 w_49) 4 w_50) 5 w_51) (va_up (va_up (va_up RJ 2 w_52) 6 w_53) 7 w_54)) := hD
                have hi_62 : vp_in (m0_116 + 1) 21 := in_succ (in_ne hm_m0_116 c_45)
                refine lv_aload_n hx hb dX10_stone_261 rfl (lv_at hl 0 rfl) ?_
                refine va_get (D := D) (ci := 9) (v := .int (m0_116 + 1)) (C := RX10) (T := TX10) (N := 30) hx hb hts hi10 hown hK hP 0 rfl rfl 1 (by decide) hw0 (fun _ h9 => h9) rfl dX10_stone_262 ?_
                refine lv_iconst (v := 1) hx hb dX10_stone_265 (by decide) ?_
                refine lv_isub hx hb dX10_stone_266 ?_
                exact wret_i hx hb hr hlocks (J, (va_up (va_up (va_up (va_up I 1 (m0_116 + 1)) 3 w_47) 12 w_48) 13 m3_116), (va_up (va_up (va_up (va_up R 1 (upd m4_116 m0_116.toNatClampNeg (((x0 ||| (x1 <<< ((2 : Int32) &&& 31))) ||| 256) ||| (x3 <<< ((9 : Int32) &&& 31))))) 3 w_49) 4 w_50) 5 w_51), (va_up (va_up (va_up RJ 2 w_52) 6 w_53) 7 w_54)) ⟨(m0_116 + 1), w_47, w_48, m3_116, (upd m4_116 m0_116.toNatClampNeg (((x0 ||| (x1 <<< ((2 : Int32) &&& 31))) ||| 256) ||| (x3 <<< ((9 : Int32) &&& 31)))), w_49, w_50, w_51, w_52, w_53, w_54, ⟨(stoM_ok (sw6 hgd hpl hfp (nt2 hg c_43) (fun z => c_44 z.1) (len20n (hst.trans hI1) hSe2 c_45)) (by rw [sCode, if_pos c_60]) c_45 hp_59).2, hi_62, hi_55, hi_56, hi_57, hi_58, (stoM_ok (sw6 hgd hpl hfp (nt2 hg c_43) (fun z => c_44 z.1) (len20n (hst.trans hI1) hSe2 c_45)) (by rw [sCode, if_pos c_60]) c_45 hp_59).1⟩, rfl⟩ hP hD hS dX10_stone_267
            · refine lv_aload_n hx hb dX10_stone_208 rfl (lv_at hl 0 rfl) ?_
              refine lv_ldc (v := (-100005)) hx hb hown hw2 dX10_stone_209 ?_
              refine kM_i (As := [.int (-100005)]) (rest := []) (q0 := 0) ⟨hx, hb, hml, hown, hts⟩ (c_X10_finding l D cy a _ J (va_up (va_up (va_up (va_up I 1 m0_116) 3 m1_116) 12 m2_116) 13 m3_116) (va_up (va_up (va_up (va_up R 1 m4_116) 3 m5_116) 4 m6_116) 5 m7_116) (va_up (va_up (va_up RJ 2 m8_116) 6 m9_116) 7 m10_116) (-100005) ) (cwV 1 hts gX10_stone_X10_finding rfl rfl rfl (by decide +kernel) ⟨Nat.le_of_ble_eq_true rfl, Nat.le_of_ble_eq_true rfl⟩) hK hN hP hD hS hA rfl rfl rfl hl.1 rfl (Nat.le_of_ble_eq_true rfl) dX10_stone_211 ⟨Nat.le_of_ble_eq_true rfl, Nat.le_of_ble_eq_true rfl⟩ (fun r_63 u H locs hw hP hD hS => ?_)
              obtain ⟨rfl, rfl⟩ := hw
              have hP : va_P D vwCl (MW cy a J (va_up (va_up (va_up (va_up I 1 m0_116) 3 m1_116) 12 m2_116) 13 (m3_116 + 1)) (va_up (va_up (va_up (va_up R 1 m4_116) 3 m5_116) 4 m6_116) 5 m7_116) (va_up (va_up (va_up RJ 2 m8_116) 6 m9_116) 7 m10_116)) H := hP
              have hD : va_D A (MW cy a J (va_up (va_up (va_up (va_up I 1 m0_116) 3 m1_116) 12 m2_116) 13 (m3_116 + 1)) (va_up (va_up (va_up (va_up R 1 m4_116) 3 m5_116) 4 m6_116) 5 m7_116) (va_up (va_up (va_up RJ 2 m8_116) 6 m9_116) 7 m10_116)) := hD
              exact wret_i hx hb hr hlocks (J, (va_up (va_up (va_up (va_up I 1 m0_116) 3 m1_116) 12 m2_116) 13 (m3_116 + 1)), (va_up (va_up (va_up (va_up R 1 m4_116) 3 m5_116) 4 m6_116) 5 m7_116), (va_up (va_up (va_up RJ 2 m8_116) 6 m9_116) 7 m10_116)) ⟨m0_116, m1_116, m2_116, (m3_116 + 1), m4_116, m5_116, m6_116, m7_116, m8_116, m9_116, m10_116, ⟨(sto_no (P := P) (sw5 hgd hpl hfp (nt2 hg c_43) (fun z => c_44 z.1) (len20 hns (hst.trans hI1) hSe2 c_45)) (by decide)).1, hm_m0_116, hm_m1_116, hm_m2_116, hm_m5_116, hm_m7_116, (stoM_no (sw5 hgd hpl hfp (nt2 hg c_43) (fun z => c_44 z.1) (len20 hns (hst.trans hI1) hSe2 c_45)) (by decide) hRA2)⟩, rfl⟩ hP hD hS dX10_stone_214
          · refine lv_aload_n hx hb dX10_stone_180 rfl (lv_at hl 0 rfl) ?_
            refine va_get (D := D) (ci := 9) (v := .long (J 0)) (C := RX10) (T := TX10) (N := 30) hx hb hts hi10 hown hK hP 0 rfl rfl 0 (by decide) hw3 (fun _ h9 => h9) rfl dX10_stone_181 ?_
            refine lv_iload_n hx hb dX10_stone_184 rfl (lv_at hl 2 rfl) ?_
            refine lv_iload_n hx hb dX10_stone_185 rfl (lv_at hl 3 rfl) ?_
            refine kS_i (As := [.long (J 0), .int x1, .int (bI x2)]) (rest := []) ⟨hx, hb, hml, hown, hts⟩ (c_X10_isAtEdge l (J 0) x1 x2) (va_cwS 3 hts gX10_stone_X10_isAtEdge rfl rfl rfl (by decide +kernel) ⟨Nat.le_of_ble_eq_true rfl, Nat.le_of_ble_eq_true rfl⟩) rfl hl.1 rfl (Nat.le_of_ble_eq_true rfl) dX10_stone_186 ⟨Nat.le_of_ble_eq_true rfl, Nat.le_of_ble_eq_true rfl⟩ ?_
            refine lv_if_ne (tgt := 199) hx hb dX10_stone_189 (by decide) (fun c_64 => ?_) (fun c_64 => ?_)
            · replace c_64 := bI_t c_64
              refine lv_aload_n hx hb dX10_stone_199 rfl (lv_at hl 0 rfl) ?_
              refine va_get (D := D) (ci := 9) (v := .int m0_116) (C := RX10) (T := TX10) (N := 30) hx hb hts hi10 hown hK hP 0 rfl rfl 1 (by decide) hw0 (fun _ h9 => h9) rfl dX10_stone_200 ?_
              refine lv_bipush (v := 20) hx hb dX10_stone_203 (by decide) ?_
              refine lv_icmp_ne (tgt := 215) hx hb dX10_stone_205 (by decide) (fun c_65 => ?_) (fun c_65 => ?_)
              · refine lv_aload_n hx hb dX10_stone_215 rfl (lv_at hl 0 rfl) ?_
                refine kM_v (As := []) (rest := []) (q0 := 0) ⟨hx, hb, hml, hown, hts⟩ (x_X10_keep l D cy a _ J (va_up (va_up (va_up (va_up I 1 m0_116) 3 m1_116) 12 m2_116) 13 m3_116) (va_up (va_up (va_up (va_up R 1 m4_116) 3 m5_116) 4 m6_116) 5 m7_116) (va_up (va_up (va_up RJ 2 m8_116) 6 m9_116) 7 m10_116)  fl S P hRA2 ⟨hm_m0_116, hm_m1_116, hm_m2_116, hm_m5_116, hm_m7_116, hM.2.2.2.2.2⟩) (cwV 0 hts gX10_stone_X10_keep rfl rfl rfl (by decide +kernel) ⟨Nat.le_of_ble_eq_true rfl, Nat.le_of_ble_eq_true rfl⟩) hK hN hP hD hS hA rfl rfl rfl hl.1 rfl (Nat.le_of_ble_eq_true rfl) dX10_stone_216 ⟨Nat.le_of_ble_eq_true rfl, Nat.le_of_ble_eq_true rfl⟩ (fun u H locs hw hP hD hS => ?_)
                obtain ⟨w_67, w_68, w_69, w_70, w_71, w_72, w_73, w_74, ⟨hi_75, hi_76, hi_77, hi_78, hp_79⟩, rfl⟩ := hw
                have hP : va_P D vwCl (MW cy a J (va_up (va_up (va_up (va_up I 1 m0_116) 3 w_67) 12 w_68) 13 m3_116) (va_up (va_up (va_up (va_up R 1 m4_116) 3 w_69) 4 w_70) 5 w_71) (va_up (va_up (va_up RJ 2 w_72) 6 w_73) 7 w_74)) H := hP
                have hD : va_D A (MW cy a J (va_up (va_up (va_up (va_up I 1 m0_116) 3 w_67) 12 w_68) 13 m3_116) (va_up (va_up (va_up (va_up R 1 m4_116) 3 w_69) 4 w_70) 5 w_71) (va_up (va_up (va_up RJ 2 w_72) 6 w_73) 7 w_74)) := hD
                refine lv_aload_n hx hb dX10_stone_219 rfl (lv_at hl 0 rfl) ?_
                refine va_get (D := D) (ci := 9) (v := .ref (a 1)) (C := RX10) (T := TX10) (N := 30) hx hb hts hi10 hown hK hP 0 rfl rfl 2 (by decide) hw1 (fun _ h9 => h9) rfl dX10_stone_220 ?_
                refine lv_aload_n hx hb dX10_stone_223 rfl (lv_at hl 0 rfl) ?_
                refine va_get (D := D) (ci := 9) (v := .int m0_116) (C := RX10) (T := TX10) (N := 30) hx hb hts hi10 hown hK hP 0 rfl rfl 1 (by decide) hw0 (fun _ h9 => h9) rfl dX10_stone_224 ?_
                refine lv_iload_n hx hb dX10_stone_227 rfl (lv_at hl 1 rfl) ?_
                refine lv_iload_n hx hb dX10_stone_228 rfl (lv_at hl 2 rfl) ?_
                refine lv_iconst (v := 2) hx hb dX10_stone_229 (by decide) ?_
                refine lv_ishl hx hb dX10_stone_230 ?_
                refine lv_ior hx hb dX10_stone_231 ?_
                refine lv_iload_n hx hb dX10_stone_232 rfl (lv_at hl 3 rfl) ?_
                refine lv_if_eq (tgt := 242) hx hb dX10_stone_233 (by decide) (fun c_80 => ?_) (fun c_80 => ?_)
                · replace c_80 := bI_f c_80
                  refine lv_iconst (v := 0) hx hb dX10_stone_242 (by decide) ?_
                  refine lv_ior hx hb dX10_stone_243 ?_
                  refine lv_iload hx hb dX10_stone_244 (lv_at hl 4 rfl) ?_
                  refine lv_bipush (v := 9) hx hb dX10_stone_246 (by decide) ?_
                  refine lv_ishl hx hb dX10_stone_248 ?_
                  refine lv_ior hx hb dX10_stone_249 ?_
                  refine va_iast hx hb hK hP hD hS 1 0 rfl rfl (in_ne hm_m0_116 c_65) dX10_stone_250 (fun H locs hP hD hS => ?_)
                  have hP : va_P D vwCl (MW cy a J (va_up (va_up (va_up (va_up I 1 m0_116) 3 w_67) 12 w_68) 13 m3_116) (va_up (va_up (va_up (va_up R 1 (upd m4_116 m0_116.toNatClampNeg (((x0 ||| (x1 <<< ((2 : Int32) &&& 31))) ||| 0) ||| (x3 <<< ((9 : Int32) &&& 31))))) 3 w_69) 4 w_70) 5 w_71) (va_up (va_up (va_up RJ 2 w_72) 6 w_73) 7 w_74)) H := hP
                  have hD : va_D A (MW cy a J (va_up (va_up (va_up (va_up I 1 m0_116) 3 w_67) 12 w_68) 13 m3_116) (va_up (va_up (va_up (va_up R 1 (upd m4_116 m0_116.toNatClampNeg (((x0 ||| (x1 <<< ((2 : Int32) &&& 31))) ||| 0) ||| (x3 <<< ((9 : Int32) &&& 31))))) 3 w_69) 4 w_70) 5 w_71) (va_up (va_up (va_up RJ 2 w_72) 6 w_73) 7 w_74)) := hD
                  refine lv_aload_n hx hb dX10_stone_251 rfl (lv_at hl 0 rfl) ?_
                  refine lv_dup hx hb dX10_stone_252 rfl ?_
                  refine va_get (D := D) (ci := 9) (v := .int m0_116) (C := RX10) (T := TX10) (N := 30) hx hb hts hi10 hown hK hP 0 rfl rfl 1 (by decide) hw0 (fun _ h9 => h9) rfl dX10_stone_253 ?_
                  refine lv_iconst (v := 1) hx hb dX10_stone_256 (by decide) ?_
                  refine lv_iadd hx hb dX10_stone_257 ?_
                  refine va_put (D := D) (ci := 9) (v := .int (m0_116 + 1)) (ty := .int) (C := RX10) (T := TX10) (N := 30) hx hb hts hi10 tyX10 tyX10_ok nmX10 hown hK hP hD hS 0 rfl rfl 1 (by decide) hw0 (fun _ h9 => h9) rfl (by decide +kernel) rfl rfl (Nat.le_of_ble_eq_true rfl) dX10_stone_258 (fun H locs hP hD hS => ?_)
                  have hP : va_P D vwCl (MW cy a J (va_up (va_up (va_up (va_up I 1 (m0_116 + 1)) 3 w_67) 12 w_68) 13 m3_116) (va_up (va_up (va_up (va_up R 1 (upd m4_116 m0_116.toNatClampNeg (((x0 ||| (x1 <<< ((2 : Int32) &&& 31))) ||| 0) ||| (x3 <<< ((9 : Int32) &&& 31))))) 3 w_69) 4 w_70) 5 w_71) (va_up (va_up (va_up RJ 2 w_72) 6 w_73) 7 w_74)) H := hP
                  have hD : va_D A (MW cy a J (va_up (va_up (va_up (va_up I 1 (m0_116 + 1)) 3 w_67) 12 w_68) 13 m3_116) (va_up (va_up (va_up (va_up R 1 (upd m4_116 m0_116.toNatClampNeg (((x0 ||| (x1 <<< ((2 : Int32) &&& 31))) ||| 0) ||| (x3 <<< ((9 : Int32) &&& 31))))) 3 w_69) 4 w_70) 5 w_71) (va_up (va_up (va_up RJ 2 w_72) 6 w_73) 7 w_74)) := hD
                  have hi_81 : vp_in (m0_116 + 1) 21 := in_succ (in_ne hm_m0_116 c_65)
                  refine lv_aload_n hx hb dX10_stone_261 rfl (lv_at hl 0 rfl) ?_
                  refine va_get (D := D) (ci := 9) (v := .int (m0_116 + 1)) (C := RX10) (T := TX10) (N := 30) hx hb hts hi10 hown hK hP 0 rfl rfl 1 (by decide) hw0 (fun _ h9 => h9) rfl dX10_stone_262 ?_
                  refine lv_iconst (v := 1) hx hb dX10_stone_265 (by decide) ?_
                  refine lv_isub hx hb dX10_stone_266 ?_
                  exact wret_i hx hb hr hlocks (J, (va_up (va_up (va_up (va_up I 1 (m0_116 + 1)) 3 w_67) 12 w_68) 13 m3_116), (va_up (va_up (va_up (va_up R 1 (upd m4_116 m0_116.toNatClampNeg (((x0 ||| (x1 <<< ((2 : Int32) &&& 31))) ||| 0) ||| (x3 <<< ((9 : Int32) &&& 31))))) 3 w_69) 4 w_70) 5 w_71), (va_up (va_up (va_up RJ 2 w_72) 6 w_73) 7 w_74)) ⟨(m0_116 + 1), w_67, w_68, m3_116, (upd m4_116 m0_116.toNatClampNeg (((x0 ||| (x1 <<< ((2 : Int32) &&& 31))) ||| 0) ||| (x3 <<< ((9 : Int32) &&& 31)))), w_69, w_70, w_71, w_72, w_73, w_74, ⟨(stoM_ok (sw6 hgd hpl hfp (nt2 hg c_43) (fun z => absurd z.2 (by rw [← hRA.1, c_64]; decide)) (len20n (hst.trans hI1) hSe2 c_65)) (by rw [sCode, if_neg (by rw [c_80]; decide)]) c_65 hp_79).2, hi_81, hi_75, hi_76, hi_77, hi_78, (stoM_ok (sw6 hgd hpl hfp (nt2 hg c_43) (fun z => absurd z.2 (by rw [← hRA.1, c_64]; decide)) (len20n (hst.trans hI1) hSe2 c_65)) (by rw [sCode, if_neg (by rw [c_80]; decide)]) c_65 hp_79).1⟩, rfl⟩ hP hD hS dX10_stone_267
                · replace c_80 := bI_t c_80
                  refine lv_sipush (v := 256) hx hb dX10_stone_236 (by decide) ?_
                  refine lv_goto (tgt := 243) hx hb dX10_stone_239 (by decide) ?_
                  refine lv_ior hx hb dX10_stone_243 ?_
                  refine lv_iload hx hb dX10_stone_244 (lv_at hl 4 rfl) ?_
                  refine lv_bipush (v := 9) hx hb dX10_stone_246 (by decide) ?_
                  refine lv_ishl hx hb dX10_stone_248 ?_
                  refine lv_ior hx hb dX10_stone_249 ?_
                  refine va_iast hx hb hK hP hD hS 1 0 rfl rfl (in_ne hm_m0_116 c_65) dX10_stone_250 (fun H locs hP hD hS => ?_)
                  have hP : va_P D vwCl (MW cy a J (va_up (va_up (va_up (va_up I 1 m0_116) 3 w_67) 12 w_68) 13 m3_116) (va_up (va_up (va_up (va_up R 1 (upd m4_116 m0_116.toNatClampNeg (((x0 ||| (x1 <<< ((2 : Int32) &&& 31))) ||| 256) ||| (x3 <<< ((9 : Int32) &&& 31))))) 3 w_69) 4 w_70) 5 w_71) (va_up (va_up (va_up RJ 2 w_72) 6 w_73) 7 w_74)) H := hP
                  have hD : va_D A (MW cy a J (va_up (va_up (va_up (va_up I 1 m0_116) 3 w_67) 12 w_68) 13 m3_116) (va_up (va_up (va_up (va_up R 1 (upd m4_116 m0_116.toNatClampNeg (((x0 ||| (x1 <<< ((2 : Int32) &&& 31))) ||| 256) ||| (x3 <<< ((9 : Int32) &&& 31))))) 3 w_69) 4 w_70) 5 w_71) (va_up (va_up (va_up RJ 2 w_72) 6 w_73) 7 w_74)) := hD
                  refine lv_aload_n hx hb dX10_stone_251 rfl (lv_at hl 0 rfl) ?_
                  refine lv_dup hx hb dX10_stone_252 rfl ?_
                  refine va_get (D := D) (ci := 9) (v := .int m0_116) (C := RX10) (T := TX10) (N := 30) hx hb hts hi10 hown hK hP 0 rfl rfl 1 (by decide) hw0 (fun _ h9 => h9) rfl dX10_stone_253 ?_
                  refine lv_iconst (v := 1) hx hb dX10_stone_256 (by decide) ?_
                  refine lv_iadd hx hb dX10_stone_257 ?_
                  refine va_put (D := D) (ci := 9) (v := .int (m0_116 + 1)) (ty := .int) (C := RX10) (T := TX10) (N := 30) hx hb hts hi10 tyX10 tyX10_ok nmX10 hown hK hP hD hS 0 rfl rfl 1 (by decide) hw0 (fun _ h9 => h9) rfl (by decide +kernel) rfl rfl (Nat.le_of_ble_eq_true rfl) dX10_stone_258 (fun H locs hP hD hS => ?_)
                  have hP : va_P D vwCl (MW cy a J (va_up (va_up (va_up (va_up I 1 (m0_116 + 1)) 3 w_67) 12 w_68) 13 m3_116) (va_up (va_up (va_up (va_up R 1 (upd m4_116 m0_116.toNatClampNeg (((x0 ||| (x1 <<< ((2 : Int32) &&& 31))) ||| 256) ||| (x3 <<< ((9 : Int32) &&& 31))))) 3 w_69) 4 w_70) 5 w_71) (va_up (va_up (va_up RJ 2 w_72) 6 w_73) 7 w_74)) H := hP
                  have hD : va_D A (MW cy a J (va_up (va_up (va_up (va_up I 1 (m0_116 + 1)) 3 w_67) 12 w_68) 13 m3_116) (va_up (va_up (va_up (va_up R 1 (upd m4_116 m0_116.toNatClampNeg (((x0 ||| (x1 <<< ((2 : Int32) &&& 31))) ||| 256) ||| (x3 <<< ((9 : Int32) &&& 31))))) 3 w_69) 4 w_70) 5 w_71) (va_up (va_up (va_up RJ 2 w_72) 6 w_73) 7 w_74)) := hD
                  have hi_82 : vp_in (m0_116 + 1) 21 := in_succ (in_ne hm_m0_116 c_65)
                  refine lv_aload_n hx hb dX10_stone_261 rfl (lv_at hl 0 rfl) ?_
                  refine va_get (D := D) (ci := 9) (v := .int (m0_116 + 1)) (C := RX10) (T := TX10) (N := 30) hx hb hts hi10 hown hK hP 0 rfl rfl 1 (by decide) hw0 (fun _ h9 => h9) rfl dX10_stone_262 ?_
                  refine lv_iconst (v := 1) hx hb dX10_stone_265 (by decide) ?_
                  refine lv_isub hx hb dX10_stone_266 ?_
                  exact wret_i hx hb hr hlocks (J, (va_up (va_up (va_up (va_up I 1 (m0_116 + 1)) 3 w_67) 12 w_68) 13 m3_116), (va_up (va_up (va_up (va_up R 1 (upd m4_116 m0_116.toNatClampNeg (((x0 ||| (x1 <<< ((2 : Int32) &&& 31))) ||| 256) ||| (x3 <<< ((9 : Int32) &&& 31))))) 3 w_69) 4 w_70) 5 w_71), (va_up (va_up (va_up RJ 2 w_72) 6 w_73) 7 w_74)) ⟨(m0_116 + 1), w_67, w_68, m3_116, (upd m4_116 m0_116.toNatClampNeg (((x0 ||| (x1 <<< ((2 : Int32) &&& 31))) ||| 256) ||| (x3 <<< ((9 : Int32) &&& 31)))), w_69, w_70, w_71, w_72, w_73, w_74, ⟨(stoM_ok (sw6 hgd hpl hfp (nt2 hg c_43) (fun z => absurd z.2 (by rw [← hRA.1, c_64]; decide)) (len20n (hst.trans hI1) hSe2 c_65)) (by rw [sCode, if_pos c_80]) c_65 hp_79).2, hi_82, hi_75, hi_76, hi_77, hi_78, (stoM_ok (sw6 hgd hpl hfp (nt2 hg c_43) (fun z => absurd z.2 (by rw [← hRA.1, c_64]; decide)) (len20n (hst.trans hI1) hSe2 c_65)) (by rw [sCode, if_pos c_80]) c_65 hp_79).1⟩, rfl⟩ hP hD hS dX10_stone_267
              · refine lv_aload_n hx hb dX10_stone_208 rfl (lv_at hl 0 rfl) ?_
                refine lv_ldc (v := (-100005)) hx hb hown hw2 dX10_stone_209 ?_
                refine kM_i (As := [.int (-100005)]) (rest := []) (q0 := 0) ⟨hx, hb, hml, hown, hts⟩ (c_X10_finding l D cy a _ J (va_up (va_up (va_up (va_up I 1 m0_116) 3 m1_116) 12 m2_116) 13 m3_116) (va_up (va_up (va_up (va_up R 1 m4_116) 3 m5_116) 4 m6_116) 5 m7_116) (va_up (va_up (va_up RJ 2 m8_116) 6 m9_116) 7 m10_116) (-100005) ) (cwV 1 hts gX10_stone_X10_finding rfl rfl rfl (by decide +kernel) ⟨Nat.le_of_ble_eq_true rfl, Nat.le_of_ble_eq_true rfl⟩) hK hN hP hD hS hA rfl rfl rfl hl.1 rfl (Nat.le_of_ble_eq_true rfl) dX10_stone_211 ⟨Nat.le_of_ble_eq_true rfl, Nat.le_of_ble_eq_true rfl⟩ (fun r_83 u H locs hw hP hD hS => ?_)
                obtain ⟨rfl, rfl⟩ := hw
                have hP : va_P D vwCl (MW cy a J (va_up (va_up (va_up (va_up I 1 m0_116) 3 m1_116) 12 m2_116) 13 (m3_116 + 1)) (va_up (va_up (va_up (va_up R 1 m4_116) 3 m5_116) 4 m6_116) 5 m7_116) (va_up (va_up (va_up RJ 2 m8_116) 6 m9_116) 7 m10_116)) H := hP
                have hD : va_D A (MW cy a J (va_up (va_up (va_up (va_up I 1 m0_116) 3 m1_116) 12 m2_116) 13 (m3_116 + 1)) (va_up (va_up (va_up (va_up R 1 m4_116) 3 m5_116) 4 m6_116) 5 m7_116) (va_up (va_up (va_up RJ 2 m8_116) 6 m9_116) 7 m10_116)) := hD
                exact wret_i hx hb hr hlocks (J, (va_up (va_up (va_up (va_up I 1 m0_116) 3 m1_116) 12 m2_116) 13 (m3_116 + 1)), (va_up (va_up (va_up (va_up R 1 m4_116) 3 m5_116) 4 m6_116) 5 m7_116), (va_up (va_up (va_up RJ 2 m8_116) 6 m9_116) 7 m10_116)) ⟨m0_116, m1_116, m2_116, (m3_116 + 1), m4_116, m5_116, m6_116, m7_116, m8_116, m9_116, m10_116, ⟨(sto_no (P := P) (sw5 hgd hpl hfp (nt2 hg c_43) (fun z => absurd z.2 (by rw [← hRA.1, c_64]; decide)) (len20 hns (hst.trans hI1) hSe2 c_65)) (by decide)).1, hm_m0_116, hm_m1_116, hm_m2_116, hm_m5_116, hm_m7_116, (stoM_no (sw5 hgd hpl hfp (nt2 hg c_43) (fun z => absurd z.2 (by rw [← hRA.1, c_64]; decide)) (len20 hns (hst.trans hI1) hSe2 c_65)) (by decide) hRA2)⟩, rfl⟩ hP hD hS dX10_stone_214
            · replace c_64 := bI_f c_64
              refine lv_aload_n hx hb dX10_stone_192 rfl (lv_at hl 0 rfl) ?_
              refine lv_ldc (v := (-100004)) hx hb hown hw4 dX10_stone_193 ?_
              refine kM_i (As := [.int (-100004)]) (rest := []) (q0 := 0) ⟨hx, hb, hml, hown, hts⟩ (c_X10_finding l D cy a _ J (va_up (va_up (va_up (va_up I 1 m0_116) 3 m1_116) 12 m2_116) 13 m3_116) (va_up (va_up (va_up (va_up R 1 m4_116) 3 m5_116) 4 m6_116) 5 m7_116) (va_up (va_up (va_up RJ 2 m8_116) 6 m9_116) 7 m10_116) (-100004) ) (cwV 1 hts gX10_stone_X10_finding rfl rfl rfl (by decide +kernel) ⟨Nat.le_of_ble_eq_true rfl, Nat.le_of_ble_eq_true rfl⟩) hK hN hP hD hS hA rfl rfl rfl hl.1 rfl (Nat.le_of_ble_eq_true rfl) dX10_stone_195 ⟨Nat.le_of_ble_eq_true rfl, Nat.le_of_ble_eq_true rfl⟩ (fun r_84 u H locs hw hP hD hS => ?_)
              obtain ⟨rfl, rfl⟩ := hw
              have hP : va_P D vwCl (MW cy a J (va_up (va_up (va_up (va_up I 1 m0_116) 3 m1_116) 12 m2_116) 13 (m3_116 + 1)) (va_up (va_up (va_up (va_up R 1 m4_116) 3 m5_116) 4 m6_116) 5 m7_116) (va_up (va_up (va_up RJ 2 m8_116) 6 m9_116) 7 m10_116)) H := hP
              have hD : va_D A (MW cy a J (va_up (va_up (va_up (va_up I 1 m0_116) 3 m1_116) 12 m2_116) 13 (m3_116 + 1)) (va_up (va_up (va_up (va_up R 1 m4_116) 3 m5_116) 4 m6_116) 5 m7_116) (va_up (va_up (va_up RJ 2 m8_116) 6 m9_116) 7 m10_116)) := hD
              exact wret_i hx hb hr hlocks (J, (va_up (va_up (va_up (va_up I 1 m0_116) 3 m1_116) 12 m2_116) 13 (m3_116 + 1)), (va_up (va_up (va_up (va_up R 1 m4_116) 3 m5_116) 4 m6_116) 5 m7_116), (va_up (va_up (va_up RJ 2 m8_116) 6 m9_116) 7 m10_116)) ⟨m0_116, m1_116, m2_116, (m3_116 + 1), m4_116, m5_116, m6_116, m7_116, m8_116, m9_116, m10_116, ⟨(sto_no (P := P) (sw4 hgd hpl hfp (nt2 hg c_43) ⟨c_44, (by rw [← hRA.1]; exact c_64)⟩) (by decide)).1, hm_m0_116, hm_m1_116, hm_m2_116, hm_m5_116, hm_m7_116, (stoM_no (sw4 hgd hpl hfp (nt2 hg c_43) ⟨c_44, (by rw [← hRA.1]; exact c_64)⟩) (by decide) hRA2)⟩, rfl⟩ hP hD hS dX10_stone_198
        · refine lv_aload_n hx hb dX10_stone_130 rfl (lv_at hl 0 rfl) ?_
          refine lv_iload hx hb dX10_stone_131 (lv_at hl 7 rfl) ?_
          refine kR_i (As := [.int (nI i)]) (rest := []) (q0 := 0) ⟨hx, hb, hml, hown, hts⟩ (c_X10_isGlued l D cy a _ J (va_up (va_up (va_up (va_up I 1 m0_116) 3 m1_116) 12 m2_116) 13 m3_116) (va_up (va_up (va_up (va_up R 1 m4_116) 3 m5_116) 4 m6_116) 5 m7_116) (va_up (va_up (va_up RJ 2 m8_116) 6 m9_116) 7 m10_116) (nI i) (vp_in_nI (by omega) (by decide))) (cwV 1 hts gX10_stone_X10_isGlued rfl rfl rfl (by decide +kernel) ⟨Nat.le_of_ble_eq_true rfl, Nat.le_of_ble_eq_true rfl⟩) hK hN hP hD rfl rfl rfl hl.1 rfl (Nat.le_of_ble_eq_true rfl) dX10_stone_133 ⟨Nat.le_of_ble_eq_true rfl, Nat.le_of_ble_eq_true rfl⟩ ?_
          refine lv_if_eq (tgt := 169) hx hb dX10_stone_136 (by decide) (fun c_85 => ?_) (fun c_85 => ?_)
          · replace c_85 := bI_f c_85
            refine lv_iinc (v := nI (i + 1)) (lv' := [(9, .int (nI (i + 1))), (0, .ref (a 0)), (1, .int x0), (2, .int x1), (3, .int (bI x2)), (4, .int x3), (6, .long (m_place x1 x2)), (8, .int v8_116)]) hx hb dX10_stone_169 hl (k := 7) rfl (nI_1 _) (by decide) rfl (fun ls hl => ?_)
            refine lv_goto (tgt := 116) hx hb dX10_stone_172 (by decide) ?_
            exact ih116 (i + 1) v8_116 m0_116 m1_116 m2_116 m3_116 m4_116 m5_116 m6_116 m7_116 m8_116 m9_116 m10_116 (by omega) hm_m0_116 hm_m1_116 hm_m2_116 hm_m5_116 hm_m7_116 hst hRA2 hgd hpl hfp hg hSe2 (fun z => all_s (by omega) (hNg z) (gl_f1 c_85)) (by omega) _ _ hP hD hS ls (lv_sub hl [1, 2, 3, 4, 5, 6, 7, 0] rfl)
          · replace c_85 := bI_t c_85
            refine lv_aload_n hx hb dX10_stone_139 rfl (lv_at hl 0 rfl) ?_
            refine lv_iload hx hb dX10_stone_140 (lv_at hl 7 rfl) ?_
            refine kR_i (As := [.int (nI i)]) (rest := []) (q0 := 0) ⟨hx, hb, hml, hown, hts⟩ (c_X10_fieldOf l D cy a _ J (va_up (va_up (va_up (va_up I 1 m0_116) 3 m1_116) 12 m2_116) 13 m3_116) (va_up (va_up (va_up (va_up R 1 m4_116) 3 m5_116) 4 m6_116) 5 m7_116) (va_up (va_up (va_up RJ 2 m8_116) 6 m9_116) 7 m10_116) (nI i) (vp_in_nI (by omega) (by decide))) (cwV 1 hts gX10_stone_X10_fieldOf rfl rfl rfl (by decide +kernel) ⟨Nat.le_of_ble_eq_true rfl, Nat.le_of_ble_eq_true rfl⟩) hK hN hP hD rfl rfl rfl hl.1 rfl (Nat.le_of_ble_eq_true rfl) dX10_stone_142 ⟨Nat.le_of_ble_eq_true rfl, Nat.le_of_ble_eq_true rfl⟩ ?_
            refine lv_aload_n hx hb dX10_stone_145 rfl (lv_at hl 0 rfl) ?_
            refine lv_iload hx hb dX10_stone_146 (lv_at hl 7 rfl) ?_
            refine kR_i (As := [.int (nI i)]) (rest := [.int (((m4_116 (nI i).toNatClampNeg) >>> ((2 : Int32) &&& 31)) &&& 63)]) (q0 := 0) ⟨hx, hb, hml, hown, hts⟩ (c_X10_isAcross l D cy a _ J (va_up (va_up (va_up (va_up I 1 m0_116) 3 m1_116) 12 m2_116) 13 m3_116) (va_up (va_up (va_up (va_up R 1 m4_116) 3 m5_116) 4 m6_116) 5 m7_116) (va_up (va_up (va_up RJ 2 m8_116) 6 m9_116) 7 m10_116) (nI i) (vp_in_nI (by omega) (by decide))) (cwV 1 hts gX10_stone_X10_isAcross rfl rfl rfl (by decide +kernel) ⟨Nat.le_of_ble_eq_true rfl, Nat.le_of_ble_eq_true rfl⟩) hK hN hP hD rfl rfl rfl hl.1 rfl (Nat.le_of_ble_eq_true rfl) dX10_stone_148 ⟨Nat.le_of_ble_eq_true rfl, Nat.le_of_ble_eq_true rfl⟩ ?_
            refine kS_l (As := [.int (((m4_116 (nI i).toNatClampNeg) >>> ((2 : Int32) &&& 31)) &&& 63), .int (bI (m_acr (m4_116 (nI i).toNatClampNeg)))]) (rest := []) ⟨hx, hb, hml, hown, hts⟩ (c_X10_place l (((m4_116 (nI i).toNatClampNeg) >>> ((2 : Int32) &&& 31)) &&& 63) (m_acr (m4_116 (nI i).toNatClampNeg))) (va_cwS 2 hts gX10_stone_X10_place rfl rfl rfl (by decide +kernel) ⟨Nat.le_of_ble_eq_true rfl, Nat.le_of_ble_eq_true rfl⟩) rfl hl.1 rfl (Nat.le_of_ble_eq_true rfl) dX10_stone_151 ⟨Nat.le_of_ble_eq_true rfl, Nat.le_of_ble_eq_true rfl⟩ ?_
            refine lv_lload hx hb dX10_stone_154 (lv_at hl 5 rfl) ?_
            refine lv_land hx hb dX10_stone_156 ?_
            refine lv_lconst (v := 0) hx hb dX10_stone_157 (by decide) ?_
            refine W.lcmp hx hb dX10_stone_158 ?_
            refine lv_if_eq (tgt := 169) hx hb dX10_stone_159 (by decide) (fun c_86 => ?_) (fun c_86 => ?_)
            · replace c_86 := (lg_cmp_eq _ _).mp c_86
              refine lv_iinc (v := nI (i + 1)) (lv' := [(9, .int (nI (i + 1))), (0, .ref (a 0)), (1, .int x0), (2, .int x1), (3, .int (bI x2)), (4, .int x3), (6, .long (m_place x1 x2)), (8, .int v8_116)]) hx hb dX10_stone_169 hl (k := 7) rfl (nI_1 _) (by decide) rfl (fun ls hl => ?_)
              refine lv_goto (tgt := 116) hx hb dX10_stone_172 (by decide) ?_
              exact ih116 (i + 1) v8_116 m0_116 m1_116 m2_116 m3_116 m4_116 m5_116 m6_116 m7_116 m8_116 m9_116 m10_116 (by omega) hm_m0_116 hm_m1_116 hm_m2_116 hm_m5_116 hm_m7_116 hst hRA2 hgd hpl hfp hg hSe2 (fun z => all_s (by omega) (hNg z) (gl_f2 c_86)) (by omega) _ _ hP hD hS ls (lv_sub hl [1, 2, 3, 4, 5, 6, 7, 0] rfl)
            · replace c_86 := fun z => c_86 ((lg_cmp_eq _ _).mpr z)
              refine lv_aload_n hx hb dX10_stone_162 rfl (lv_at hl 0 rfl) ?_
              refine lv_ldc (v := (-100007)) hx hb hown hw5 dX10_stone_163 ?_
              refine kM_i (As := [.int (-100007)]) (rest := []) (q0 := 0) ⟨hx, hb, hml, hown, hts⟩ (c_X10_finding l D cy a _ J (va_up (va_up (va_up (va_up I 1 m0_116) 3 m1_116) 12 m2_116) 13 m3_116) (va_up (va_up (va_up (va_up R 1 m4_116) 3 m5_116) 4 m6_116) 5 m7_116) (va_up (va_up (va_up RJ 2 m8_116) 6 m9_116) 7 m10_116) (-100007) ) (cwV 1 hts gX10_stone_X10_finding rfl rfl rfl (by decide +kernel) ⟨Nat.le_of_ble_eq_true rfl, Nat.le_of_ble_eq_true rfl⟩) hK hN hP hD hS hA rfl rfl rfl hl.1 rfl (Nat.le_of_ble_eq_true rfl) dX10_stone_165 ⟨Nat.le_of_ble_eq_true rfl, Nat.le_of_ble_eq_true rfl⟩ (fun r_87 u H locs hw hP hD hS => ?_)
              obtain ⟨rfl, rfl⟩ := hw
              have hP : va_P D vwCl (MW cy a J (va_up (va_up (va_up (va_up I 1 m0_116) 3 m1_116) 12 m2_116) 13 (m3_116 + 1)) (va_up (va_up (va_up (va_up R 1 m4_116) 3 m5_116) 4 m6_116) 5 m7_116) (va_up (va_up (va_up RJ 2 m8_116) 6 m9_116) 7 m10_116)) H := hP
              have hD : va_D A (MW cy a J (va_up (va_up (va_up (va_up I 1 m0_116) 3 m1_116) 12 m2_116) 13 (m3_116 + 1)) (va_up (va_up (va_up (va_up R 1 m4_116) 3 m5_116) 4 m6_116) 5 m7_116) (va_up (va_up (va_up RJ 2 m8_116) 6 m9_116) 7 m10_116)) := hD
              exact wret_i hx hb hr hlocks (J, (va_up (va_up (va_up (va_up I 1 m0_116) 3 m1_116) 12 m2_116) 13 (m3_116 + 1)), (va_up (va_up (va_up (va_up R 1 m4_116) 3 m5_116) 4 m6_116) 5 m7_116), (va_up (va_up (va_up RJ 2 m8_116) 6 m9_116) 7 m10_116)) ⟨m0_116, m1_116, m2_116, (m3_116 + 1), m4_116, m5_116, m6_116, m7_116, m8_116, m9_116, m10_116, ⟨(sto_no (P := P) (sw3 hgd hpl hfp ⟨hg.mp c_43, any_of hSe2 hlt hns (gl_t c_85 c_86)⟩) (by decide)).1, hm_m0_116, hm_m1_116, hm_m2_116, hm_m5_116, hm_m7_116, (stoM_no (sw3 hgd hpl hfp ⟨hg.mp c_43, any_of hSe2 hlt hns (gl_t c_85 c_86)⟩) (by decide) hRA2)⟩, rfl⟩ hP hD hS dX10_stone_168
  refine lv_iload_n hx hb dX10_stone_0 rfl (lv_at hl 1 rfl) ?_
  refine lv_iconst (v := 0) hx hb dX10_stone_1 (by decide) ?_
  refine lv_iconst (v := 3) hx hb dX10_stone_2 (by decide) ?_
  refine kS_i (As := [.int x0, .int 0, .int 3]) (rest := []) ⟨hx, hb, hml, hown, hts⟩ (c_X10_within l x0 0 3) (va_cwS 3 hts gX10_stone_X10_within rfl rfl rfl (by decide +kernel) ⟨Nat.le_of_ble_eq_true rfl, Nat.le_of_ble_eq_true rfl⟩) rfl hl.1 rfl (Nat.le_of_ble_eq_true rfl) dX10_stone_3 ⟨Nat.le_of_ble_eq_true rfl, Nat.le_of_ble_eq_true rfl⟩ ?_
  refine lv_if_eq (tgt := 44) hx hb dX10_stone_6 (by decide) (fun c_88 => ?_) (fun c_88 => ?_)
  · replace c_88 := bI_f c_88
    refine lv_iconst (v := 0) hx hb dX10_stone_44 (by decide) ?_
    refine lv_istore (lv' := [(5, .int 0), (0, .ref (a 0)), (1, .int x0), (2, .int x1), (3, .int (bI x2)), (4, .int x3)]) hx hb dX10_stone_45 hl (by decide) rfl (fun ls hl => ?_)
    refine lv_iload hx hb dX10_stone_47 (lv_at hl 0 rfl) ?_
    refine lv_if_ne (tgt := 59) hx hb dX10_stone_49 (by decide) (fun c_89 => absurd (by decide) c_89) (fun c_89 => ?_)
    refine lv_aload_n hx hb dX10_stone_52 rfl (lv_at hl 1 rfl) ?_
    refine lv_ldc (v := (-100001)) hx hb hown hw6 dX10_stone_53 ?_
    refine kM_i (As := [.int (-100001)]) (rest := []) (q0 := 0) ⟨hx, hb, hml, hown, hts⟩ (c_X10_finding l D cy a _ J (va_up (va_up (va_up (va_up I 1 (I 1)) 3 (I 3)) 12 (I 12)) 13 (I 13)) (va_up (va_up (va_up (va_up R 1 (R 1)) 3 (R 3)) 4 (R 4)) 5 (R 5)) (va_up (va_up (va_up RJ 2 (RJ 2)) 6 (RJ 6)) 7 (RJ 7)) (-100001) ) (cwV 1 hts gX10_stone_X10_finding rfl rfl rfl (by decide +kernel) ⟨Nat.le_of_ble_eq_true rfl, Nat.le_of_ble_eq_true rfl⟩) hK hN hP hD hS hA rfl rfl rfl hl.1 rfl (Nat.le_of_ble_eq_true rfl) dX10_stone_55 ⟨Nat.le_of_ble_eq_true rfl, Nat.le_of_ble_eq_true rfl⟩ (fun r_90 u H locs hw hP hD hS => ?_)
    obtain ⟨rfl, rfl⟩ := hw
    have hP : va_P D vwCl (MW cy a J (va_up (va_up (va_up (va_up I 1 (I 1)) 3 (I 3)) 12 (I 12)) 13 ((I 13) + 1)) (va_up (va_up (va_up (va_up R 1 (R 1)) 3 (R 3)) 4 (R 4)) 5 (R 5)) (va_up (va_up (va_up RJ 2 (RJ 2)) 6 (RJ 6)) 7 (RJ 7))) H := hP
    have hD : va_D A (MW cy a J (va_up (va_up (va_up (va_up I 1 (I 1)) 3 (I 3)) 12 (I 12)) 13 ((I 13) + 1)) (va_up (va_up (va_up (va_up R 1 (R 1)) 3 (R 3)) 4 (R 4)) 5 (R 5)) (va_up (va_up (va_up RJ 2 (RJ 2)) 6 (RJ 6)) 7 (RJ 7))) := hD
    exact wret_i hx hb hr hlocks (J, (va_up (va_up (va_up (va_up I 1 (I 1)) 3 (I 3)) 12 (I 12)) 13 ((I 13) + 1)), (va_up (va_up (va_up (va_up R 1 (R 1)) 3 (R 3)) 4 (R 4)) 5 (R 5)), (va_up (va_up (va_up RJ 2 (RJ 2)) 6 (RJ 6)) 7 (RJ 7))) ⟨(I 1), (I 3), (I 12), ((I 13) + 1), (R 1), (R 3), (R 4), (R 5), (RJ 2), (RJ 6), (RJ 7), ⟨(sto_no (P := P) (sw1 (sgm_1 c_88)) (by decide)).1, hM.1, hM.2.1, hM.2.2.1, hM.2.2.2.1, hM.2.2.2.2.1, (stoM_no (sw1 (sgm_1 c_88)) (by decide) hRA)⟩, rfl⟩ hP hD hS dX10_stone_58
  · replace c_88 := bI_t c_88
    refine lv_iload_n hx hb dX10_stone_9 rfl (lv_at hl 2 rfl) ?_
    refine kS_i (As := [.int x1]) (rest := []) ⟨hx, hb, hml, hown, hts⟩ (c_X10_isField l x1) (va_cwS 1 hts gX10_stone_X10_isField rfl rfl rfl (by decide +kernel) ⟨Nat.le_of_ble_eq_true rfl, Nat.le_of_ble_eq_true rfl⟩) rfl hl.1 rfl (Nat.le_of_ble_eq_true rfl) dX10_stone_10 ⟨Nat.le_of_ble_eq_true rfl, Nat.le_of_ble_eq_true rfl⟩ ?_
    refine lv_if_eq (tgt := 44) hx hb dX10_stone_13 (by decide) (fun c_91 => ?_) (fun c_91 => ?_)
    · replace c_91 := bI_f c_91
      refine lv_iconst (v := 0) hx hb dX10_stone_44 (by decide) ?_
      refine lv_istore (lv' := [(5, .int 0), (0, .ref (a 0)), (1, .int x0), (2, .int x1), (3, .int (bI x2)), (4, .int x3)]) hx hb dX10_stone_45 hl (by decide) rfl (fun ls hl => ?_)
      refine lv_iload hx hb dX10_stone_47 (lv_at hl 0 rfl) ?_
      refine lv_if_ne (tgt := 59) hx hb dX10_stone_49 (by decide) (fun c_92 => absurd (by decide) c_92) (fun c_92 => ?_)
      refine lv_aload_n hx hb dX10_stone_52 rfl (lv_at hl 1 rfl) ?_
      refine lv_ldc (v := (-100001)) hx hb hown hw6 dX10_stone_53 ?_
      refine kM_i (As := [.int (-100001)]) (rest := []) (q0 := 0) ⟨hx, hb, hml, hown, hts⟩ (c_X10_finding l D cy a _ J (va_up (va_up (va_up (va_up I 1 (I 1)) 3 (I 3)) 12 (I 12)) 13 (I 13)) (va_up (va_up (va_up (va_up R 1 (R 1)) 3 (R 3)) 4 (R 4)) 5 (R 5)) (va_up (va_up (va_up RJ 2 (RJ 2)) 6 (RJ 6)) 7 (RJ 7)) (-100001) ) (cwV 1 hts gX10_stone_X10_finding rfl rfl rfl (by decide +kernel) ⟨Nat.le_of_ble_eq_true rfl, Nat.le_of_ble_eq_true rfl⟩) hK hN hP hD hS hA rfl rfl rfl hl.1 rfl (Nat.le_of_ble_eq_true rfl) dX10_stone_55 ⟨Nat.le_of_ble_eq_true rfl, Nat.le_of_ble_eq_true rfl⟩ (fun r_93 u H locs hw hP hD hS => ?_)
      obtain ⟨rfl, rfl⟩ := hw
      have hP : va_P D vwCl (MW cy a J (va_up (va_up (va_up (va_up I 1 (I 1)) 3 (I 3)) 12 (I 12)) 13 ((I 13) + 1)) (va_up (va_up (va_up (va_up R 1 (R 1)) 3 (R 3)) 4 (R 4)) 5 (R 5)) (va_up (va_up (va_up RJ 2 (RJ 2)) 6 (RJ 6)) 7 (RJ 7))) H := hP
      have hD : va_D A (MW cy a J (va_up (va_up (va_up (va_up I 1 (I 1)) 3 (I 3)) 12 (I 12)) 13 ((I 13) + 1)) (va_up (va_up (va_up (va_up R 1 (R 1)) 3 (R 3)) 4 (R 4)) 5 (R 5)) (va_up (va_up (va_up RJ 2 (RJ 2)) 6 (RJ 6)) 7 (RJ 7))) := hD
      exact wret_i hx hb hr hlocks (J, (va_up (va_up (va_up (va_up I 1 (I 1)) 3 (I 3)) 12 (I 12)) 13 ((I 13) + 1)), (va_up (va_up (va_up (va_up R 1 (R 1)) 3 (R 3)) 4 (R 4)) 5 (R 5)), (va_up (va_up (va_up RJ 2 (RJ 2)) 6 (RJ 6)) 7 (RJ 7))) ⟨(I 1), (I 3), (I 12), ((I 13) + 1), (R 1), (R 3), (R 4), (R 5), (RJ 2), (RJ 6), (RJ 7), ⟨(sto_no (P := P) (sw1 (sgm_2 c_91)) (by decide)).1, hM.1, hM.2.1, hM.2.2.1, hM.2.2.2.1, hM.2.2.2.2.1, (stoM_no (sw1 (sgm_2 c_91)) (by decide) hRA)⟩, rfl⟩ hP hD hS dX10_stone_58
    · replace c_91 := bI_t c_91
      refine lv_iload_n hx hb dX10_stone_16 rfl (lv_at hl 1 rfl) ?_
      refine lv_iconst (v := 2) hx hb dX10_stone_17 (by decide) ?_
      refine lv_icmp_ne (tgt := 35) hx hb dX10_stone_18 (by decide) (fun c_94 => ?_) (fun c_94 => ?_)
      · refine lv_iload hx hb dX10_stone_35 (lv_at hl 4 rfl) ?_
        refine lv_if_ne (tgt := 44) hx hb dX10_stone_37 (by decide) (fun c_95 => ?_) (fun c_95 => ?_)
        · refine lv_iconst (v := 0) hx hb dX10_stone_44 (by decide) ?_
          refine lv_istore (lv' := [(5, .int 0), (0, .ref (a 0)), (1, .int x0), (2, .int x1), (3, .int (bI x2)), (4, .int x3)]) hx hb dX10_stone_45 hl (by decide) rfl (fun ls hl => ?_)
          refine lv_iload hx hb dX10_stone_47 (lv_at hl 0 rfl) ?_
          refine lv_if_ne (tgt := 59) hx hb dX10_stone_49 (by decide) (fun c_96 => absurd (by decide) c_96) (fun c_96 => ?_)
          refine lv_aload_n hx hb dX10_stone_52 rfl (lv_at hl 1 rfl) ?_
          refine lv_ldc (v := (-100001)) hx hb hown hw6 dX10_stone_53 ?_
          refine kM_i (As := [.int (-100001)]) (rest := []) (q0 := 0) ⟨hx, hb, hml, hown, hts⟩ (c_X10_finding l D cy a _ J (va_up (va_up (va_up (va_up I 1 (I 1)) 3 (I 3)) 12 (I 12)) 13 (I 13)) (va_up (va_up (va_up (va_up R 1 (R 1)) 3 (R 3)) 4 (R 4)) 5 (R 5)) (va_up (va_up (va_up RJ 2 (RJ 2)) 6 (RJ 6)) 7 (RJ 7)) (-100001) ) (cwV 1 hts gX10_stone_X10_finding rfl rfl rfl (by decide +kernel) ⟨Nat.le_of_ble_eq_true rfl, Nat.le_of_ble_eq_true rfl⟩) hK hN hP hD hS hA rfl rfl rfl hl.1 rfl (Nat.le_of_ble_eq_true rfl) dX10_stone_55 ⟨Nat.le_of_ble_eq_true rfl, Nat.le_of_ble_eq_true rfl⟩ (fun r_97 u H locs hw hP hD hS => ?_)
          obtain ⟨rfl, rfl⟩ := hw
          have hP : va_P D vwCl (MW cy a J (va_up (va_up (va_up (va_up I 1 (I 1)) 3 (I 3)) 12 (I 12)) 13 ((I 13) + 1)) (va_up (va_up (va_up (va_up R 1 (R 1)) 3 (R 3)) 4 (R 4)) 5 (R 5)) (va_up (va_up (va_up RJ 2 (RJ 2)) 6 (RJ 6)) 7 (RJ 7))) H := hP
          have hD : va_D A (MW cy a J (va_up (va_up (va_up (va_up I 1 (I 1)) 3 (I 3)) 12 (I 12)) 13 ((I 13) + 1)) (va_up (va_up (va_up (va_up R 1 (R 1)) 3 (R 3)) 4 (R 4)) 5 (R 5)) (va_up (va_up (va_up RJ 2 (RJ 2)) 6 (RJ 6)) 7 (RJ 7))) := hD
          exact wret_i hx hb hr hlocks (J, (va_up (va_up (va_up (va_up I 1 (I 1)) 3 (I 3)) 12 (I 12)) 13 ((I 13) + 1)), (va_up (va_up (va_up (va_up R 1 (R 1)) 3 (R 3)) 4 (R 4)) 5 (R 5)), (va_up (va_up (va_up RJ 2 (RJ 2)) 6 (RJ 6)) 7 (RJ 7))) ⟨(I 1), (I 3), (I 12), ((I 13) + 1), (R 1), (R 3), (R 4), (R 5), (RJ 2), (RJ 6), (RJ 7), ⟨(sto_no (P := P) (sw1 (sgm_4 c_94 c_95)) (by decide)).1, hM.1, hM.2.1, hM.2.2.1, hM.2.2.2.1, hM.2.2.2.2.1, (stoM_no (sw1 (sgm_4 c_94 c_95)) (by decide) hRA)⟩, rfl⟩ hP hD hS dX10_stone_58
        · refine lv_iconst (v := 1) hx hb dX10_stone_40 (by decide) ?_
          refine lv_goto (tgt := 45) hx hb dX10_stone_41 (by decide) ?_
          refine lv_istore (lv' := [(5, .int 1), (0, .ref (a 0)), (1, .int x0), (2, .int x1), (3, .int (bI x2)), (4, .int x3)]) hx hb dX10_stone_45 hl (by decide) rfl (fun ls hl => ?_)
          refine lv_iload hx hb dX10_stone_47 (lv_at hl 0 rfl) ?_
          refine lv_if_ne (tgt := 59) hx hb dX10_stone_49 (by decide) (fun c_98 => ?_) (fun c_98 => absurd c_98 (by decide))
          refine lv_iload_n hx hb dX10_stone_59 rfl (lv_at hl 3 rfl) ?_
          refine lv_iload_n hx hb dX10_stone_60 rfl (lv_at hl 4 rfl) ?_
          refine kS_l (As := [.int x1, .int (bI x2)]) (rest := []) ⟨hx, hb, hml, hown, hts⟩ (c_X10_place l x1 x2) (va_cwS 2 hts gX10_stone_X10_place rfl rfl rfl (by decide +kernel) ⟨Nat.le_of_ble_eq_true rfl, Nat.le_of_ble_eq_true rfl⟩) rfl hl.1 rfl (Nat.le_of_ble_eq_true rfl) dX10_stone_61 ⟨Nat.le_of_ble_eq_true rfl, Nat.le_of_ble_eq_true rfl⟩ ?_
          refine lv_lstore (lv' := [(6, .long (m_place x1 x2)), (5, .int 1), (0, .ref (a 0)), (1, .int x0), (2, .int x1), (3, .int (bI x2)), (4, .int x3)]) hx hb dX10_stone_64 hl (by decide) rfl (fun ls hl => ?_)
          refine lv_lload hx hb dX10_stone_66 (lv_at hl 0 rfl) ?_
          refine lv_lconst (v := 0) hx hb dX10_stone_68 (by decide) ?_
          refine W.lcmp hx hb dX10_stone_69 ?_
          refine lv_if_eq (tgt := 89) hx hb dX10_stone_70 (by decide) (fun c_99 => ?_) (fun c_99 => ?_)
          · replace c_99 := (lg_cmp_eq _ _).mp c_99
            refine lv_aload_n hx hb dX10_stone_89 rfl (lv_at hl 2 rfl) ?_
            refine lv_ldc (v := (-100003)) hx hb hown hw7 dX10_stone_90 ?_
            refine kM_i (As := [.int (-100003)]) (rest := []) (q0 := 0) ⟨hx, hb, hml, hown, hts⟩ (c_X10_finding l D cy a _ J (va_up (va_up (va_up (va_up I 1 (I 1)) 3 (I 3)) 12 (I 12)) 13 (I 13)) (va_up (va_up (va_up (va_up R 1 (R 1)) 3 (R 3)) 4 (R 4)) 5 (R 5)) (va_up (va_up (va_up RJ 2 (RJ 2)) 6 (RJ 6)) 7 (RJ 7)) (-100003) ) (cwV 1 hts gX10_stone_X10_finding rfl rfl rfl (by decide +kernel) ⟨Nat.le_of_ble_eq_true rfl, Nat.le_of_ble_eq_true rfl⟩) hK hN hP hD hS hA rfl rfl rfl hl.1 rfl (Nat.le_of_ble_eq_true rfl) dX10_stone_92 ⟨Nat.le_of_ble_eq_true rfl, Nat.le_of_ble_eq_true rfl⟩ (fun r_100 u H locs hw hP hD hS => ?_)
            obtain ⟨rfl, rfl⟩ := hw
            have hP : va_P D vwCl (MW cy a J (va_up (va_up (va_up (va_up I 1 (I 1)) 3 (I 3)) 12 (I 12)) 13 ((I 13) + 1)) (va_up (va_up (va_up (va_up R 1 (R 1)) 3 (R 3)) 4 (R 4)) 5 (R 5)) (va_up (va_up (va_up RJ 2 (RJ 2)) 6 (RJ 6)) 7 (RJ 7))) H := hP
            have hD : va_D A (MW cy a J (va_up (va_up (va_up (va_up I 1 (I 1)) 3 (I 3)) 12 (I 12)) 13 ((I 13) + 1)) (va_up (va_up (va_up (va_up R 1 (R 1)) 3 (R 3)) 4 (R 4)) 5 (R 5)) (va_up (va_up (va_up RJ 2 (RJ 2)) 6 (RJ 6)) 7 (RJ 7))) := hD
            exact wret_i hx hb hr hlocks (J, (va_up (va_up (va_up (va_up I 1 (I 1)) 3 (I 3)) 12 (I 12)) 13 ((I 13) + 1)), (va_up (va_up (va_up (va_up R 1 (R 1)) 3 (R 3)) 4 (R 4)) 5 (R 5)), (va_up (va_up (va_up RJ 2 (RJ 2)) 6 (RJ 6)) 7 (RJ 7))) ⟨(I 1), (I 3), (I 12), ((I 13) + 1), (R 1), (R 3), (R 4), (R 5), (RJ 2), (RJ 6), (RJ 7), ⟨(sto_no (P := P) (sw2 (sgm_t0 c_88 c_91 c_94 c_95) (Or.inl c_99)) (by decide)).1, hM.1, hM.2.1, hM.2.2.1, hM.2.2.2.1, hM.2.2.2.2.1, (stoM_no (sw2 (sgm_t0 c_88 c_91 c_94 c_95) (Or.inl c_99)) (by decide) hRA)⟩, rfl⟩ hP hD hS dX10_stone_95
          · replace c_99 := fun z => c_99 ((lg_cmp_eq _ _).mpr z)
            refine lv_lload hx hb dX10_stone_73 (lv_at hl 0 rfl) ?_
            refine lv_aload_n hx hb dX10_stone_75 rfl (lv_at hl 2 rfl) ?_
            refine va_get (D := D) (ci := 9) (v := .long (J 0)) (C := RX10) (T := TX10) (N := 30) hx hb hts hi10 hown hK hP 0 rfl rfl 0 (by decide) hw3 (fun _ h9 => h9) rfl dX10_stone_76 ?_
            refine lv_ldc2 (v := (-1)) hx hb hown hw8 dX10_stone_79 ?_
            refine lv_lxor hx hb dX10_stone_82 ?_
            refine lv_land hx hb dX10_stone_83 ?_
            refine lv_lconst (v := 0) hx hb dX10_stone_84 (by decide) ?_
            refine W.lcmp hx hb dX10_stone_85 ?_
            refine lv_if_eq (tgt := 96) hx hb dX10_stone_86 (by decide) (fun c_101 => ?_) (fun c_101 => ?_)
            · replace c_101 := (lg_cmp_eq _ _).mp c_101
              refine lv_iload_n hx hb dX10_stone_96 rfl (lv_at hl 3 rfl) ?_
              refine lv_iconst (v := 1) hx hb dX10_stone_97 (by decide) ?_
              refine lv_icmp_eq (tgt := 106) hx hb dX10_stone_98 (by decide) (fun c_102 => ?_) (fun c_102 => ?_)
              · refine lv_iconst (v := 1) hx hb dX10_stone_106 (by decide) ?_
                refine lv_goto (tgt := 111) hx hb dX10_stone_107 (by decide) ?_
                refine lv_istore (lv' := [(8, .int 1), (6, .long (m_place x1 x2)), (5, .int 1), (0, .ref (a 0)), (1, .int x0), (2, .int x1), (3, .int (bI x2)), (4, .int x3)]) hx hb dX10_stone_111 hl (by decide) rfl (fun ls hl => ?_)
                refine lv_iconst (v := 0) hx hb dX10_stone_113 (by decide) ?_
                refine lv_istore (lv' := [(9, .int 0), (8, .int 1), (6, .long (m_place x1 x2)), (5, .int 1), (0, .ref (a 0)), (1, .int x0), (2, .int x1), (3, .int (bI x2)), (4, .int x3)]) hx hb dX10_stone_114 hl (by decide) rfl (fun ls hl => ?_)
                exact lp116 _ 0 (1 : Int32) (I 1) (I 3) (I 12) (I 13) (R 1) (R 3) (R 4) (R 5) (RJ 2) (RJ 6) (RJ 7) (by omega) hM.1 hM.2.1 hM.2.2.1 hM.2.2.2.1 hM.2.2.2.2.1 rfl hRA (sgm_t0 c_88 c_91 c_94 c_95) c_99 (by rw [← hRA.1]; exact c_101) (by simp [c_102]) hSe (fun _ j h => absurd h (Nat.not_lt_zero _)) (Nat.lt_succ_self _) _ _ hP hD hS ls (lv_sub hl [4, 5, 6, 7, 8, 2, 1, 0] rfl)
              · refine lv_iload_n hx hb dX10_stone_101 rfl (lv_at hl 3 rfl) ?_
                refine lv_iconst (v := 2) hx hb dX10_stone_102 (by decide) ?_
                refine lv_icmp_ne (tgt := 110) hx hb dX10_stone_103 (by decide) (fun c_103 => ?_) (fun c_103 => ?_)
                · refine lv_iconst (v := 0) hx hb dX10_stone_110 (by decide) ?_
                  refine lv_istore (lv' := [(8, .int 0), (6, .long (m_place x1 x2)), (5, .int 1), (0, .ref (a 0)), (1, .int x0), (2, .int x1), (3, .int (bI x2)), (4, .int x3)]) hx hb dX10_stone_111 hl (by decide) rfl (fun ls hl => ?_)
                  refine lv_iconst (v := 0) hx hb dX10_stone_113 (by decide) ?_
                  refine lv_istore (lv' := [(9, .int 0), (8, .int 0), (6, .long (m_place x1 x2)), (5, .int 1), (0, .ref (a 0)), (1, .int x0), (2, .int x1), (3, .int (bI x2)), (4, .int x3)]) hx hb dX10_stone_114 hl (by decide) rfl (fun ls hl => ?_)
                  exact lp116 _ 0 (0 : Int32) (I 1) (I 3) (I 12) (I 13) (R 1) (R 3) (R 4) (R 5) (RJ 2) (RJ 6) (RJ 7) (by omega) hM.1 hM.2.1 hM.2.2.1 hM.2.2.2.1 hM.2.2.2.2.1 rfl hRA (sgm_t0 c_88 c_91 c_94 c_95) c_99 (by rw [← hRA.1]; exact c_101) (by simp [c_102, c_103]) hSe (fun _ j h => absurd h (Nat.not_lt_zero _)) (Nat.lt_succ_self _) _ _ hP hD hS ls (lv_sub hl [4, 5, 6, 7, 8, 2, 1, 0] rfl)
                · refine lv_iconst (v := 1) hx hb dX10_stone_106 (by decide) ?_
                  refine lv_goto (tgt := 111) hx hb dX10_stone_107 (by decide) ?_
                  refine lv_istore (lv' := [(8, .int 1), (6, .long (m_place x1 x2)), (5, .int 1), (0, .ref (a 0)), (1, .int x0), (2, .int x1), (3, .int (bI x2)), (4, .int x3)]) hx hb dX10_stone_111 hl (by decide) rfl (fun ls hl => ?_)
                  refine lv_iconst (v := 0) hx hb dX10_stone_113 (by decide) ?_
                  refine lv_istore (lv' := [(9, .int 0), (8, .int 1), (6, .long (m_place x1 x2)), (5, .int 1), (0, .ref (a 0)), (1, .int x0), (2, .int x1), (3, .int (bI x2)), (4, .int x3)]) hx hb dX10_stone_114 hl (by decide) rfl (fun ls hl => ?_)
                  exact lp116 _ 0 (1 : Int32) (I 1) (I 3) (I 12) (I 13) (R 1) (R 3) (R 4) (R 5) (RJ 2) (RJ 6) (RJ 7) (by omega) hM.1 hM.2.1 hM.2.2.1 hM.2.2.2.1 hM.2.2.2.2.1 rfl hRA (sgm_t0 c_88 c_91 c_94 c_95) c_99 (by rw [← hRA.1]; exact c_101) (by simp [c_102, c_103]) hSe (fun _ j h => absurd h (Nat.not_lt_zero _)) (Nat.lt_succ_self _) _ _ hP hD hS ls (lv_sub hl [4, 5, 6, 7, 8, 2, 1, 0] rfl)
            · replace c_101 := fun z => c_101 ((lg_cmp_eq _ _).mpr z)
              refine lv_aload_n hx hb dX10_stone_89 rfl (lv_at hl 2 rfl) ?_
              refine lv_ldc (v := (-100003)) hx hb hown hw7 dX10_stone_90 ?_
              refine kM_i (As := [.int (-100003)]) (rest := []) (q0 := 0) ⟨hx, hb, hml, hown, hts⟩ (c_X10_finding l D cy a _ J (va_up (va_up (va_up (va_up I 1 (I 1)) 3 (I 3)) 12 (I 12)) 13 (I 13)) (va_up (va_up (va_up (va_up R 1 (R 1)) 3 (R 3)) 4 (R 4)) 5 (R 5)) (va_up (va_up (va_up RJ 2 (RJ 2)) 6 (RJ 6)) 7 (RJ 7)) (-100003) ) (cwV 1 hts gX10_stone_X10_finding rfl rfl rfl (by decide +kernel) ⟨Nat.le_of_ble_eq_true rfl, Nat.le_of_ble_eq_true rfl⟩) hK hN hP hD hS hA rfl rfl rfl hl.1 rfl (Nat.le_of_ble_eq_true rfl) dX10_stone_92 ⟨Nat.le_of_ble_eq_true rfl, Nat.le_of_ble_eq_true rfl⟩ (fun r_104 u H locs hw hP hD hS => ?_)
              obtain ⟨rfl, rfl⟩ := hw
              have hP : va_P D vwCl (MW cy a J (va_up (va_up (va_up (va_up I 1 (I 1)) 3 (I 3)) 12 (I 12)) 13 ((I 13) + 1)) (va_up (va_up (va_up (va_up R 1 (R 1)) 3 (R 3)) 4 (R 4)) 5 (R 5)) (va_up (va_up (va_up RJ 2 (RJ 2)) 6 (RJ 6)) 7 (RJ 7))) H := hP
              have hD : va_D A (MW cy a J (va_up (va_up (va_up (va_up I 1 (I 1)) 3 (I 3)) 12 (I 12)) 13 ((I 13) + 1)) (va_up (va_up (va_up (va_up R 1 (R 1)) 3 (R 3)) 4 (R 4)) 5 (R 5)) (va_up (va_up (va_up RJ 2 (RJ 2)) 6 (RJ 6)) 7 (RJ 7))) := hD
              exact wret_i hx hb hr hlocks (J, (va_up (va_up (va_up (va_up I 1 (I 1)) 3 (I 3)) 12 (I 12)) 13 ((I 13) + 1)), (va_up (va_up (va_up (va_up R 1 (R 1)) 3 (R 3)) 4 (R 4)) 5 (R 5)), (va_up (va_up (va_up RJ 2 (RJ 2)) 6 (RJ 6)) 7 (RJ 7))) ⟨(I 1), (I 3), (I 12), ((I 13) + 1), (R 1), (R 3), (R 4), (R 5), (RJ 2), (RJ 6), (RJ 7), ⟨(sto_no (P := P) (sw2 (sgm_t0 c_88 c_91 c_94 c_95) (Or.inr (by rw [← hRA.1]; exact c_101))) (by decide)).1, hM.1, hM.2.1, hM.2.2.1, hM.2.2.2.1, hM.2.2.2.2.1, (stoM_no (sw2 (sgm_t0 c_88 c_91 c_94 c_95) (Or.inr (by rw [← hRA.1]; exact c_101))) (by decide) hRA)⟩, rfl⟩ hP hD hS dX10_stone_95
      · refine lv_iload hx hb dX10_stone_21 (lv_at hl 4 rfl) ?_
        refine lv_iconst (v := 1) hx hb dX10_stone_23 (by decide) ?_
        refine lv_bipush (v := 99) hx hb dX10_stone_24 (by decide) ?_
        refine kS_i (As := [.int x3, .int 1, .int 99]) (rest := []) ⟨hx, hb, hml, hown, hts⟩ (c_X10_within l x3 1 99) (va_cwS 3 hts gX10_stone_X10_within rfl rfl rfl (by decide +kernel) ⟨Nat.le_of_ble_eq_true rfl, Nat.le_of_ble_eq_true rfl⟩) rfl hl.1 rfl (Nat.le_of_ble_eq_true rfl) dX10_stone_26 ⟨Nat.le_of_ble_eq_true rfl, Nat.le_of_ble_eq_true rfl⟩ ?_
        refine lv_if_eq (tgt := 44) hx hb dX10_stone_29 (by decide) (fun c_105 => ?_) (fun c_105 => ?_)
        · replace c_105 := bI_f c_105
          refine lv_iconst (v := 0) hx hb dX10_stone_44 (by decide) ?_
          refine lv_istore (lv' := [(5, .int 0), (0, .ref (a 0)), (1, .int x0), (2, .int x1), (3, .int (bI x2)), (4, .int x3)]) hx hb dX10_stone_45 hl (by decide) rfl (fun ls hl => ?_)
          refine lv_iload hx hb dX10_stone_47 (lv_at hl 0 rfl) ?_
          refine lv_if_ne (tgt := 59) hx hb dX10_stone_49 (by decide) (fun c_106 => absurd (by decide) c_106) (fun c_106 => ?_)
          refine lv_aload_n hx hb dX10_stone_52 rfl (lv_at hl 1 rfl) ?_
          refine lv_ldc (v := (-100001)) hx hb hown hw6 dX10_stone_53 ?_
          refine kM_i (As := [.int (-100001)]) (rest := []) (q0 := 0) ⟨hx, hb, hml, hown, hts⟩ (c_X10_finding l D cy a _ J (va_up (va_up (va_up (va_up I 1 (I 1)) 3 (I 3)) 12 (I 12)) 13 (I 13)) (va_up (va_up (va_up (va_up R 1 (R 1)) 3 (R 3)) 4 (R 4)) 5 (R 5)) (va_up (va_up (va_up RJ 2 (RJ 2)) 6 (RJ 6)) 7 (RJ 7)) (-100001) ) (cwV 1 hts gX10_stone_X10_finding rfl rfl rfl (by decide +kernel) ⟨Nat.le_of_ble_eq_true rfl, Nat.le_of_ble_eq_true rfl⟩) hK hN hP hD hS hA rfl rfl rfl hl.1 rfl (Nat.le_of_ble_eq_true rfl) dX10_stone_55 ⟨Nat.le_of_ble_eq_true rfl, Nat.le_of_ble_eq_true rfl⟩ (fun r_107 u H locs hw hP hD hS => ?_)
          obtain ⟨rfl, rfl⟩ := hw
          have hP : va_P D vwCl (MW cy a J (va_up (va_up (va_up (va_up I 1 (I 1)) 3 (I 3)) 12 (I 12)) 13 ((I 13) + 1)) (va_up (va_up (va_up (va_up R 1 (R 1)) 3 (R 3)) 4 (R 4)) 5 (R 5)) (va_up (va_up (va_up RJ 2 (RJ 2)) 6 (RJ 6)) 7 (RJ 7))) H := hP
          have hD : va_D A (MW cy a J (va_up (va_up (va_up (va_up I 1 (I 1)) 3 (I 3)) 12 (I 12)) 13 ((I 13) + 1)) (va_up (va_up (va_up (va_up R 1 (R 1)) 3 (R 3)) 4 (R 4)) 5 (R 5)) (va_up (va_up (va_up RJ 2 (RJ 2)) 6 (RJ 6)) 7 (RJ 7))) := hD
          exact wret_i hx hb hr hlocks (J, (va_up (va_up (va_up (va_up I 1 (I 1)) 3 (I 3)) 12 (I 12)) 13 ((I 13) + 1)), (va_up (va_up (va_up (va_up R 1 (R 1)) 3 (R 3)) 4 (R 4)) 5 (R 5)), (va_up (va_up (va_up RJ 2 (RJ 2)) 6 (RJ 6)) 7 (RJ 7))) ⟨(I 1), (I 3), (I 12), ((I 13) + 1), (R 1), (R 3), (R 4), (R 5), (RJ 2), (RJ 6), (RJ 7), ⟨(sto_no (P := P) (sw1 (sgm_3 c_94 c_105)) (by decide)).1, hM.1, hM.2.1, hM.2.2.1, hM.2.2.2.1, hM.2.2.2.2.1, (stoM_no (sw1 (sgm_3 c_94 c_105)) (by decide) hRA)⟩, rfl⟩ hP hD hS dX10_stone_58
        · replace c_105 := bI_t c_105
          refine lv_goto (tgt := 40) hx hb dX10_stone_32 (by decide) ?_
          refine lv_iconst (v := 1) hx hb dX10_stone_40 (by decide) ?_
          refine lv_goto (tgt := 45) hx hb dX10_stone_41 (by decide) ?_
          refine lv_istore (lv' := [(5, .int 1), (0, .ref (a 0)), (1, .int x0), (2, .int x1), (3, .int (bI x2)), (4, .int x3)]) hx hb dX10_stone_45 hl (by decide) rfl (fun ls hl => ?_)
          refine lv_iload hx hb dX10_stone_47 (lv_at hl 0 rfl) ?_
          refine lv_if_ne (tgt := 59) hx hb dX10_stone_49 (by decide) (fun c_108 => ?_) (fun c_108 => absurd c_108 (by decide))
          refine lv_iload_n hx hb dX10_stone_59 rfl (lv_at hl 3 rfl) ?_
          refine lv_iload_n hx hb dX10_stone_60 rfl (lv_at hl 4 rfl) ?_
          refine kS_l (As := [.int x1, .int (bI x2)]) (rest := []) ⟨hx, hb, hml, hown, hts⟩ (c_X10_place l x1 x2) (va_cwS 2 hts gX10_stone_X10_place rfl rfl rfl (by decide +kernel) ⟨Nat.le_of_ble_eq_true rfl, Nat.le_of_ble_eq_true rfl⟩) rfl hl.1 rfl (Nat.le_of_ble_eq_true rfl) dX10_stone_61 ⟨Nat.le_of_ble_eq_true rfl, Nat.le_of_ble_eq_true rfl⟩ ?_
          refine lv_lstore (lv' := [(6, .long (m_place x1 x2)), (5, .int 1), (0, .ref (a 0)), (1, .int x0), (2, .int x1), (3, .int (bI x2)), (4, .int x3)]) hx hb dX10_stone_64 hl (by decide) rfl (fun ls hl => ?_)
          refine lv_lload hx hb dX10_stone_66 (lv_at hl 0 rfl) ?_
          refine lv_lconst (v := 0) hx hb dX10_stone_68 (by decide) ?_
          refine W.lcmp hx hb dX10_stone_69 ?_
          refine lv_if_eq (tgt := 89) hx hb dX10_stone_70 (by decide) (fun c_109 => ?_) (fun c_109 => ?_)
          · replace c_109 := (lg_cmp_eq _ _).mp c_109
            refine lv_aload_n hx hb dX10_stone_89 rfl (lv_at hl 2 rfl) ?_
            refine lv_ldc (v := (-100003)) hx hb hown hw7 dX10_stone_90 ?_
            refine kM_i (As := [.int (-100003)]) (rest := []) (q0 := 0) ⟨hx, hb, hml, hown, hts⟩ (c_X10_finding l D cy a _ J (va_up (va_up (va_up (va_up I 1 (I 1)) 3 (I 3)) 12 (I 12)) 13 (I 13)) (va_up (va_up (va_up (va_up R 1 (R 1)) 3 (R 3)) 4 (R 4)) 5 (R 5)) (va_up (va_up (va_up RJ 2 (RJ 2)) 6 (RJ 6)) 7 (RJ 7)) (-100003) ) (cwV 1 hts gX10_stone_X10_finding rfl rfl rfl (by decide +kernel) ⟨Nat.le_of_ble_eq_true rfl, Nat.le_of_ble_eq_true rfl⟩) hK hN hP hD hS hA rfl rfl rfl hl.1 rfl (Nat.le_of_ble_eq_true rfl) dX10_stone_92 ⟨Nat.le_of_ble_eq_true rfl, Nat.le_of_ble_eq_true rfl⟩ (fun r_110 u H locs hw hP hD hS => ?_)
            obtain ⟨rfl, rfl⟩ := hw
            have hP : va_P D vwCl (MW cy a J (va_up (va_up (va_up (va_up I 1 (I 1)) 3 (I 3)) 12 (I 12)) 13 ((I 13) + 1)) (va_up (va_up (va_up (va_up R 1 (R 1)) 3 (R 3)) 4 (R 4)) 5 (R 5)) (va_up (va_up (va_up RJ 2 (RJ 2)) 6 (RJ 6)) 7 (RJ 7))) H := hP
            have hD : va_D A (MW cy a J (va_up (va_up (va_up (va_up I 1 (I 1)) 3 (I 3)) 12 (I 12)) 13 ((I 13) + 1)) (va_up (va_up (va_up (va_up R 1 (R 1)) 3 (R 3)) 4 (R 4)) 5 (R 5)) (va_up (va_up (va_up RJ 2 (RJ 2)) 6 (RJ 6)) 7 (RJ 7))) := hD
            exact wret_i hx hb hr hlocks (J, (va_up (va_up (va_up (va_up I 1 (I 1)) 3 (I 3)) 12 (I 12)) 13 ((I 13) + 1)), (va_up (va_up (va_up (va_up R 1 (R 1)) 3 (R 3)) 4 (R 4)) 5 (R 5)), (va_up (va_up (va_up RJ 2 (RJ 2)) 6 (RJ 6)) 7 (RJ 7))) ⟨(I 1), (I 3), (I 12), ((I 13) + 1), (R 1), (R 3), (R 4), (R 5), (RJ 2), (RJ 6), (RJ 7), ⟨(sto_no (P := P) (sw2 (sgm_t2 c_88 c_91 c_94 c_105) (Or.inl c_109)) (by decide)).1, hM.1, hM.2.1, hM.2.2.1, hM.2.2.2.1, hM.2.2.2.2.1, (stoM_no (sw2 (sgm_t2 c_88 c_91 c_94 c_105) (Or.inl c_109)) (by decide) hRA)⟩, rfl⟩ hP hD hS dX10_stone_95
          · replace c_109 := fun z => c_109 ((lg_cmp_eq _ _).mpr z)
            refine lv_lload hx hb dX10_stone_73 (lv_at hl 0 rfl) ?_
            refine lv_aload_n hx hb dX10_stone_75 rfl (lv_at hl 2 rfl) ?_
            refine va_get (D := D) (ci := 9) (v := .long (J 0)) (C := RX10) (T := TX10) (N := 30) hx hb hts hi10 hown hK hP 0 rfl rfl 0 (by decide) hw3 (fun _ h9 => h9) rfl dX10_stone_76 ?_
            refine lv_ldc2 (v := (-1)) hx hb hown hw8 dX10_stone_79 ?_
            refine lv_lxor hx hb dX10_stone_82 ?_
            refine lv_land hx hb dX10_stone_83 ?_
            refine lv_lconst (v := 0) hx hb dX10_stone_84 (by decide) ?_
            refine W.lcmp hx hb dX10_stone_85 ?_
            refine lv_if_eq (tgt := 96) hx hb dX10_stone_86 (by decide) (fun c_111 => ?_) (fun c_111 => ?_)
            · replace c_111 := (lg_cmp_eq _ _).mp c_111
              refine lv_iload_n hx hb dX10_stone_96 rfl (lv_at hl 3 rfl) ?_
              refine lv_iconst (v := 1) hx hb dX10_stone_97 (by decide) ?_
              refine lv_icmp_eq (tgt := 106) hx hb dX10_stone_98 (by decide) (fun c_112 => ?_) (fun c_112 => ?_)
              · refine lv_iconst (v := 1) hx hb dX10_stone_106 (by decide) ?_
                refine lv_goto (tgt := 111) hx hb dX10_stone_107 (by decide) ?_
                refine lv_istore (lv' := [(8, .int 1), (6, .long (m_place x1 x2)), (5, .int 1), (0, .ref (a 0)), (1, .int x0), (2, .int x1), (3, .int (bI x2)), (4, .int x3)]) hx hb dX10_stone_111 hl (by decide) rfl (fun ls hl => ?_)
                refine lv_iconst (v := 0) hx hb dX10_stone_113 (by decide) ?_
                refine lv_istore (lv' := [(9, .int 0), (8, .int 1), (6, .long (m_place x1 x2)), (5, .int 1), (0, .ref (a 0)), (1, .int x0), (2, .int x1), (3, .int (bI x2)), (4, .int x3)]) hx hb dX10_stone_114 hl (by decide) rfl (fun ls hl => ?_)
                exact lp116 _ 0 (1 : Int32) (I 1) (I 3) (I 12) (I 13) (R 1) (R 3) (R 4) (R 5) (RJ 2) (RJ 6) (RJ 7) (by omega) hM.1 hM.2.1 hM.2.2.1 hM.2.2.2.1 hM.2.2.2.2.1 rfl hRA (sgm_t2 c_88 c_91 c_94 c_105) c_109 (by rw [← hRA.1]; exact c_111) (by simp [c_112]) hSe (fun _ j h => absurd h (Nat.not_lt_zero _)) (Nat.lt_succ_self _) _ _ hP hD hS ls (lv_sub hl [4, 5, 6, 7, 8, 2, 1, 0] rfl)
              · refine lv_iload_n hx hb dX10_stone_101 rfl (lv_at hl 3 rfl) ?_
                refine lv_iconst (v := 2) hx hb dX10_stone_102 (by decide) ?_
                refine lv_icmp_ne (tgt := 110) hx hb dX10_stone_103 (by decide) (fun c_113 => ?_) (fun c_113 => ?_)
                · refine lv_iconst (v := 0) hx hb dX10_stone_110 (by decide) ?_
                  refine lv_istore (lv' := [(8, .int 0), (6, .long (m_place x1 x2)), (5, .int 1), (0, .ref (a 0)), (1, .int x0), (2, .int x1), (3, .int (bI x2)), (4, .int x3)]) hx hb dX10_stone_111 hl (by decide) rfl (fun ls hl => ?_)
                  refine lv_iconst (v := 0) hx hb dX10_stone_113 (by decide) ?_
                  refine lv_istore (lv' := [(9, .int 0), (8, .int 0), (6, .long (m_place x1 x2)), (5, .int 1), (0, .ref (a 0)), (1, .int x0), (2, .int x1), (3, .int (bI x2)), (4, .int x3)]) hx hb dX10_stone_114 hl (by decide) rfl (fun ls hl => ?_)
                  exact lp116 _ 0 (0 : Int32) (I 1) (I 3) (I 12) (I 13) (R 1) (R 3) (R 4) (R 5) (RJ 2) (RJ 6) (RJ 7) (by omega) hM.1 hM.2.1 hM.2.2.1 hM.2.2.2.1 hM.2.2.2.2.1 rfl hRA (sgm_t2 c_88 c_91 c_94 c_105) c_109 (by rw [← hRA.1]; exact c_111) (by simp [c_112, c_113]) hSe (fun _ j h => absurd h (Nat.not_lt_zero _)) (Nat.lt_succ_self _) _ _ hP hD hS ls (lv_sub hl [4, 5, 6, 7, 8, 2, 1, 0] rfl)
                · refine lv_iconst (v := 1) hx hb dX10_stone_106 (by decide) ?_
                  refine lv_goto (tgt := 111) hx hb dX10_stone_107 (by decide) ?_
                  refine lv_istore (lv' := [(8, .int 1), (6, .long (m_place x1 x2)), (5, .int 1), (0, .ref (a 0)), (1, .int x0), (2, .int x1), (3, .int (bI x2)), (4, .int x3)]) hx hb dX10_stone_111 hl (by decide) rfl (fun ls hl => ?_)
                  refine lv_iconst (v := 0) hx hb dX10_stone_113 (by decide) ?_
                  refine lv_istore (lv' := [(9, .int 0), (8, .int 1), (6, .long (m_place x1 x2)), (5, .int 1), (0, .ref (a 0)), (1, .int x0), (2, .int x1), (3, .int (bI x2)), (4, .int x3)]) hx hb dX10_stone_114 hl (by decide) rfl (fun ls hl => ?_)
                  exact lp116 _ 0 (1 : Int32) (I 1) (I 3) (I 12) (I 13) (R 1) (R 3) (R 4) (R 5) (RJ 2) (RJ 6) (RJ 7) (by omega) hM.1 hM.2.1 hM.2.2.1 hM.2.2.2.1 hM.2.2.2.2.1 rfl hRA (sgm_t2 c_88 c_91 c_94 c_105) c_109 (by rw [← hRA.1]; exact c_111) (by simp [c_112, c_113]) hSe (fun _ j h => absurd h (Nat.not_lt_zero _)) (Nat.lt_succ_self _) _ _ hP hD hS ls (lv_sub hl [4, 5, 6, 7, 8, 2, 1, 0] rfl)
            · replace c_111 := fun z => c_111 ((lg_cmp_eq _ _).mpr z)
              refine lv_aload_n hx hb dX10_stone_89 rfl (lv_at hl 2 rfl) ?_
              refine lv_ldc (v := (-100003)) hx hb hown hw7 dX10_stone_90 ?_
              refine kM_i (As := [.int (-100003)]) (rest := []) (q0 := 0) ⟨hx, hb, hml, hown, hts⟩ (c_X10_finding l D cy a _ J (va_up (va_up (va_up (va_up I 1 (I 1)) 3 (I 3)) 12 (I 12)) 13 (I 13)) (va_up (va_up (va_up (va_up R 1 (R 1)) 3 (R 3)) 4 (R 4)) 5 (R 5)) (va_up (va_up (va_up RJ 2 (RJ 2)) 6 (RJ 6)) 7 (RJ 7)) (-100003) ) (cwV 1 hts gX10_stone_X10_finding rfl rfl rfl (by decide +kernel) ⟨Nat.le_of_ble_eq_true rfl, Nat.le_of_ble_eq_true rfl⟩) hK hN hP hD hS hA rfl rfl rfl hl.1 rfl (Nat.le_of_ble_eq_true rfl) dX10_stone_92 ⟨Nat.le_of_ble_eq_true rfl, Nat.le_of_ble_eq_true rfl⟩ (fun r_114 u H locs hw hP hD hS => ?_)
              obtain ⟨rfl, rfl⟩ := hw
              have hP : va_P D vwCl (MW cy a J (va_up (va_up (va_up (va_up I 1 (I 1)) 3 (I 3)) 12 (I 12)) 13 ((I 13) + 1)) (va_up (va_up (va_up (va_up R 1 (R 1)) 3 (R 3)) 4 (R 4)) 5 (R 5)) (va_up (va_up (va_up RJ 2 (RJ 2)) 6 (RJ 6)) 7 (RJ 7))) H := hP
              have hD : va_D A (MW cy a J (va_up (va_up (va_up (va_up I 1 (I 1)) 3 (I 3)) 12 (I 12)) 13 ((I 13) + 1)) (va_up (va_up (va_up (va_up R 1 (R 1)) 3 (R 3)) 4 (R 4)) 5 (R 5)) (va_up (va_up (va_up RJ 2 (RJ 2)) 6 (RJ 6)) 7 (RJ 7))) := hD
              exact wret_i hx hb hr hlocks (J, (va_up (va_up (va_up (va_up I 1 (I 1)) 3 (I 3)) 12 (I 12)) 13 ((I 13) + 1)), (va_up (va_up (va_up (va_up R 1 (R 1)) 3 (R 3)) 4 (R 4)) 5 (R 5)), (va_up (va_up (va_up RJ 2 (RJ 2)) 6 (RJ 6)) 7 (RJ 7))) ⟨(I 1), (I 3), (I 12), ((I 13) + 1), (R 1), (R 3), (R 4), (R 5), (RJ 2), (RJ 6), (RJ 7), ⟨(sto_no (P := P) (sw2 (sgm_t2 c_88 c_91 c_94 c_105) (Or.inr (by rw [← hRA.1]; exact c_111))) (by decide)).1, hM.1, hM.2.1, hM.2.2.1, hM.2.2.2.1, hM.2.2.2.2.1, (stoM_no (sw2 (sgm_t2 c_88 c_91 c_94 c_105) (Or.inr (by rw [← hRA.1]; exact c_111))) (by decide) hRA)⟩, rfl⟩ hP hD hS dX10_stone_95
theorem dX10_loose_0 : decode cX10_loose 0 = .ok (.aload_n 0, 1) := by decide +kernel
theorem dX10_loose_1 : decode cX10_loose 1 = .ok (.getfield 85, 3) := by decide +kernel
theorem dX10_loose_4 : decode cX10_loose 4 = .ok (.ifCond .ne 10, 3) := by decide +kernel
theorem dX10_loose_14 : decode cX10_loose 14 = .ok (.aload_n 0, 1) := by decide +kernel
set_option maxRecDepth 20000 in
theorem ggX10_loose_X10_keep : GoodIn wsX10_loose wsX10_keep := goodIn_r _ [12, 13, 14, 15, 16, 17, 18, 19, 20, 1, 21, 22, 23, 24, 25, 26, 27, 28, 29, 30, 31, 32, 33, 34, 35, 36, 37, 38, 39, 40, 41, 42, 43, 44, 45, 46, 47, 48, 49, 50, 51, 52, 53, 54] rfl (by decide +kernel)
set_option maxRecDepth 20000 in
theorem gX10_loose_X10_keep : GoodIn wsX10_loose (wsV RX10 134 RX10 yX10_keep wsX10_keep) := goodIn_app (goodIn_r _ [9, 10, 11, 6] rfl (by decide +kernel)) ggX10_loose_X10_keep
theorem dX10_loose_15 : decode cX10_loose 15 = .ok (.invokevirtual 134, 3) := by decide +kernel
theorem dX10_loose_18 : decode cX10_loose 18 = .ok (.aload_n 0, 1) := by decide +kernel
theorem dX10_loose_19 : decode cX10_loose 19 = .ok (.dup, 1) := by decide +kernel
theorem dX10_loose_20 : decode cX10_loose 20 = .ok (.getfield 85, 3) := by decide +kernel
theorem dX10_loose_23 : decode cX10_loose 23 = .ok (.iconst 1, 1) := by decide +kernel
theorem dX10_loose_24 : decode cX10_loose 24 = .ok (.isub, 1) := by decide +kernel
theorem dX10_loose_25 : decode cX10_loose 25 = .ok (.putfield 85, 3) := by decide +kernel
theorem dX10_loose_28 : decode cX10_loose 28 = .ok (.aload_n 0, 1) := by decide +kernel
theorem dX10_loose_29 : decode cX10_loose 29 = .ok (.getfield 85, 3) := by decide +kernel
theorem dX10_loose_32 : decode cX10_loose 32 = .ok (.ireturn, 1) := by decide +kernel
theorem dX10_loose_7 : decode cX10_loose 7 = .ok (.aload_n 0, 1) := by decide +kernel
theorem dX10_loose_8 : decode cX10_loose 8 = .ok (.ldc 98, 2) := by decide +kernel
set_option maxRecDepth 20000 in
theorem ggX10_loose_X10_finding : GoodIn wsX10_loose wsX10_finding := goodIn_r _ [7, 8, 25, 26, 27, 28, 29, 30, 31, 32, 33, 34, 35, 36, 37, 38, 39, 40, 41, 42, 43, 44, 45, 46, 47, 48, 49, 50, 51, 52, 53, 54] rfl (by decide +kernel)
set_option maxRecDepth 20000 in
theorem gX10_loose_X10_finding : GoodIn wsX10_loose (wsV RX10 99 RX10 yX10_finding wsX10_finding) := goodIn_app (goodIn_r _ [3, 4, 5, 6] rfl (by decide +kernel)) ggX10_loose_X10_finding
theorem dX10_loose_10 : decode cX10_loose 10 = .ok (.invokevirtual 99, 3) := by decide +kernel
theorem dX10_loose_13 : decode cX10_loose 13 = .ok (.ireturn, 1) := by decide +kernel
set_option maxRecDepth 20000 in
theorem ihX10_loose_10 : ∀ w ∈ u_ws RX10 TX10 30, w ∈ wsX10_loose := fun _ h => List.mem_cons_of_mem _ (List.mem_append_right _ h)
set_option maxHeartbeats 4000000 in
set_option maxRecDepth 100000 in
theorem x_X10_loose (l : Launch) (D : va_G) (cy : Nat → ClassId) (a : Nat → Nat) (sz : Nat) (J : Nat → Int64) (I : Nat → Int32) (R : Nat → Nat → Int32) (RJ : Nat → Nat → Int64)  (fl : Int64) (S : List Int32) (P : List PE) (hRA : RMf (J 0) (I 1) (I 12) (R 1) (R 3) (R 4) (RJ 2) fl S P) (hM : MI I R) : Met l yX10_loose wsX10_loose ({ frames := 1, cells := 0, slots := 0, locals := 22 }) (va_Pc [.ref (a 0)] (PW D cy sz (MW cy a J I R RJ))) (va_Qi (fun r (u : MS) => ∃ (w0 : Int32), ∃ (w1 : Int32), ∃ (w2 : Int32), ∃ (w3 : Int32), ∃ (w4 : Nat → Int32), ∃ (w5 : Nat → Int32), ∃ (w6 : Nat → Int32), ∃ (w7 : Nat → Int64), ∃ (w8 : Nat → Int64), ∃ (w9 : Nat → Int64), (r = (aLooseA S) ∧ (vp_in w0 21) ∧ (isB w1) ∧ (vp_in w2 21) ∧ (∀ i, i < 20 → vp_in (w4 i) 21) ∧ (∀ i, i < 20 → isB (w6 i)) ∧ (RMf (J 0) w0 w2 (R 1) w4 w5 w7 fl S.tail (aLooseP fl S P))) ∧ u = (J, (va_up (va_up (va_up (va_up I 1 w0) 3 w1) 12 w2) 13 w3), (va_up (va_up (va_up R 3 w4) 4 w5) 5 w6), (va_up (va_up (va_up RJ 2 w7) 6 w8) 7 w9))) (BW D (va_A (MW cy a J I R RJ) sz) (MWu cy a)) (va_A (MW cy a J I R RJ) sz)) 0 0 (va_A (MW cy a J I R RJ) sz) := by
  refine Met.ofW (cc := cX10_loose) (maxL := 1) (ret := (some .int)) (by decide) rfl ?_
  intro p e s m args below meth c s₁ B hml hv
  obtain ⟨rfl, rfl, hP, hK, hN, hD0⟩ := hv
  have hx := B.exec
  have hb := B.bytes
  have hr := B.returns
  have hts := atoms_spec (ws := wsX10_loose) B.pre
  have hown : s.vm.findClass RX10 = some m.cls := findClass_of_methodNamed B.named
  have hlocks := B.notSynchronized
  have hw0 := hts (.fieldLink RX10 85 "ParquetLayerModel" "stones" "I") (by decide +kernel)
  have hw1 := hts (.constant RX10 98 (-100006)) (by decide +kernel)
  have hi10 := ihX10_loose_10
  have hD := hD0.self (sz := s.heap.size)
  generalize hAe : va_A (MW cy a J I R RJ) s.heap.size = A at hD ⊢
  have hA : ∀ q : Nat, s.heap.size ≤ q → A q := fun q h => by rw [← hAe]; exact Or.inr h
  have hS : va_S A s.heap s.heap [] := va_S.rf
  have hl := lv_entry ([.ref (a 0)]) (n := 1) (Nat.le_of_ble_eq_true rfl)
  rw [lg_entry_eq]
  generalize (lg_sl ([.ref (a 0)]) ++ List.replicate (1 - (lg_sl ([.ref (a 0)])).length) Slot.unset).toArray = ls at hl ⊢
  have hl : lv_has ls 1 [(0, .ref (a 0))] := hl
  have hP : va_P D vwCl (MW cy a J (va_up (va_up (va_up (va_up I 1 (I 1)) 3 (I 3)) 12 (I 12)) 13 (I 13)) (va_up (va_up (va_up R 3 (R 3)) 4 (R 4)) 5 (R 5)) (va_up (va_up (va_up RJ 2 (RJ 2)) 6 (RJ 6)) 7 (RJ 7))) s.heap := hP
  have hD : va_D A (MW cy a J (va_up (va_up (va_up (va_up I 1 (I 1)) 3 (I 3)) 12 (I 12)) 13 (I 13)) (va_up (va_up (va_up R 3 (R 3)) 4 (R 4)) 5 (R 5)) (va_up (va_up (va_up RJ 2 (RJ 2)) 6 (RJ 6)) 7 (RJ 7))) := hD
  refine lv_aload_n hx hb dX10_loose_0 rfl (lv_at hl 0 rfl) ?_
  refine va_get (D := D) (ci := 9) (v := .int (I 1)) (C := RX10) (T := TX10) (N := 30) hx hb hts hi10 hown hK hP 0 rfl rfl 1 (by decide) hw0 (fun _ h9 => h9) rfl dX10_loose_1 ?_
  refine lv_if_ne (tgt := 14) hx hb dX10_loose_4 (by decide) (fun c_1 => ?_) (fun c_1 => ?_)
  · refine lv_aload_n hx hb dX10_loose_14 rfl (lv_at hl 0 rfl) ?_
    refine kM_v (As := []) (rest := []) (q0 := 0) ⟨hx, hb, hml, hown, hts⟩ (x_X10_keep l D cy a _ J (va_up (va_up (va_up (va_up I 1 (I 1)) 3 (I 3)) 12 (I 12)) 13 (I 13)) (va_up (va_up (va_up R 3 (R 3)) 4 (R 4)) 5 (R 5)) (va_up (va_up (va_up RJ 2 (RJ 2)) 6 (RJ 6)) 7 (RJ 7))  fl S P hRA ⟨hM.1, hM.2.1, hM.2.2.1, hM.2.2.2.1, hM.2.2.2.2.1, hM.2.2.2.2.2⟩) (cwV 0 hts gX10_loose_X10_keep rfl rfl rfl (by decide +kernel) ⟨Nat.le_of_ble_eq_true rfl, Nat.le_of_ble_eq_true rfl⟩) hK hN hP hD hS hA rfl rfl rfl hl.1 rfl (Nat.le_of_ble_eq_true rfl) dX10_loose_15 ⟨Nat.le_of_ble_eq_true rfl, Nat.le_of_ble_eq_true rfl⟩ (fun u H locs hw hP hD hS => ?_)
    obtain ⟨w_3, w_4, w_5, w_6, w_7, w_8, w_9, w_10, ⟨hi_11, hi_12, hi_13, hi_14, hp_15⟩, rfl⟩ := hw
    have hP : va_P D vwCl (MW cy a J (va_up (va_up (va_up (va_up I 1 (I 1)) 3 w_3) 12 w_4) 13 (I 13)) (va_up (va_up (va_up R 3 w_5) 4 w_6) 5 w_7) (va_up (va_up (va_up RJ 2 w_8) 6 w_9) 7 w_10)) H := hP
    have hD : va_D A (MW cy a J (va_up (va_up (va_up (va_up I 1 (I 1)) 3 w_3) 12 w_4) 13 (I 13)) (va_up (va_up (va_up R 3 w_5) 4 w_6) 5 w_7) (va_up (va_up (va_up RJ 2 w_8) 6 w_9) 7 w_10)) := hD
    refine lv_aload_n hx hb dX10_loose_18 rfl (lv_at hl 0 rfl) ?_
    refine lv_dup hx hb dX10_loose_19 rfl ?_
    refine va_get (D := D) (ci := 9) (v := .int (I 1)) (C := RX10) (T := TX10) (N := 30) hx hb hts hi10 hown hK hP 0 rfl rfl 1 (by decide) hw0 (fun _ h9 => h9) rfl dX10_loose_20 ?_
    refine lv_iconst (v := 1) hx hb dX10_loose_23 (by decide) ?_
    refine lv_isub hx hb dX10_loose_24 ?_
    refine va_put (D := D) (ci := 9) (v := .int ((I 1) - 1)) (ty := .int) (C := RX10) (T := TX10) (N := 30) hx hb hts hi10 tyX10 tyX10_ok nmX10 hown hK hP hD hS 0 rfl rfl 1 (by decide) hw0 (fun _ h9 => h9) rfl (by decide +kernel) rfl rfl (Nat.le_of_ble_eq_true rfl) dX10_loose_25 (fun H locs hP hD hS => ?_)
    have hP : va_P D vwCl (MW cy a J (va_up (va_up (va_up (va_up I 1 ((I 1) - 1)) 3 w_3) 12 w_4) 13 (I 13)) (va_up (va_up (va_up R 3 w_5) 4 w_6) 5 w_7) (va_up (va_up (va_up RJ 2 w_8) 6 w_9) 7 w_10)) H := hP
    have hD : va_D A (MW cy a J (va_up (va_up (va_up (va_up I 1 ((I 1) - 1)) 3 w_3) 12 w_4) 13 (I 13)) (va_up (va_up (va_up R 3 w_5) 4 w_6) 5 w_7) (va_up (va_up (va_up RJ 2 w_8) 6 w_9) 7 w_10)) := hD
    have hi_16 : vp_in ((I 1) - 1) 21 := in_up (in_pred hM.1 c_1)
    refine lv_aload_n hx hb dX10_loose_28 rfl (lv_at hl 0 rfl) ?_
    refine va_get (D := D) (ci := 9) (v := .int ((I 1) - 1)) (C := RX10) (T := TX10) (N := 30) hx hb hts hi10 hown hK hP 0 rfl rfl 1 (by decide) hw0 (fun _ h9 => h9) rfl dX10_loose_29 ?_
    exact wret_i hx hb hr hlocks (J, (va_up (va_up (va_up (va_up I 1 ((I 1) - 1)) 3 w_3) 12 w_4) 13 (I 13)), (va_up (va_up (va_up R 3 w_5) 4 w_6) 5 w_7), (va_up (va_up (va_up RJ 2 w_8) 6 w_9) 7 w_10)) ⟨((I 1) - 1), w_3, w_4, (I 13), w_5, w_6, w_7, w_8, w_9, w_10, ⟨(lo_1 c_1 hp_15).2, hi_16, hi_11, hi_12, hi_13, hi_14, (lo_1 c_1 hp_15).1⟩, rfl⟩ hP hD hS dX10_loose_32
  · refine lv_aload_n hx hb dX10_loose_7 rfl (lv_at hl 0 rfl) ?_
    refine lv_ldc (v := (-100006)) hx hb hown hw1 dX10_loose_8 ?_
    refine kM_i (As := [.int (-100006)]) (rest := []) (q0 := 0) ⟨hx, hb, hml, hown, hts⟩ (c_X10_finding l D cy a _ J (va_up (va_up (va_up (va_up I 1 (I 1)) 3 (I 3)) 12 (I 12)) 13 (I 13)) (va_up (va_up (va_up R 3 (R 3)) 4 (R 4)) 5 (R 5)) (va_up (va_up (va_up RJ 2 (RJ 2)) 6 (RJ 6)) 7 (RJ 7)) (-100006) ) (cwV 1 hts gX10_loose_X10_finding rfl rfl rfl (by decide +kernel) ⟨Nat.le_of_ble_eq_true rfl, Nat.le_of_ble_eq_true rfl⟩) hK hN hP hD hS hA rfl rfl rfl hl.1 rfl (Nat.le_of_ble_eq_true rfl) dX10_loose_10 ⟨Nat.le_of_ble_eq_true rfl, Nat.le_of_ble_eq_true rfl⟩ (fun r_17 u H locs hw hP hD hS => ?_)
    obtain ⟨rfl, rfl⟩ := hw
    have hP : va_P D vwCl (MW cy a J (va_up (va_up (va_up (va_up I 1 (I 1)) 3 (I 3)) 12 (I 12)) 13 ((I 13) + 1)) (va_up (va_up (va_up R 3 (R 3)) 4 (R 4)) 5 (R 5)) (va_up (va_up (va_up RJ 2 (RJ 2)) 6 (RJ 6)) 7 (RJ 7))) H := hP
    have hD : va_D A (MW cy a J (va_up (va_up (va_up (va_up I 1 (I 1)) 3 (I 3)) 12 (I 12)) 13 ((I 13) + 1)) (va_up (va_up (va_up R 3 (R 3)) 4 (R 4)) 5 (R 5)) (va_up (va_up (va_up RJ 2 (RJ 2)) 6 (RJ 6)) 7 (RJ 7))) := hD
    exact wret_i hx hb hr hlocks (J, (va_up (va_up (va_up (va_up I 1 (I 1)) 3 (I 3)) 12 (I 12)) 13 ((I 13) + 1)), (va_up (va_up (va_up R 3 (R 3)) 4 (R 4)) 5 (R 5)), (va_up (va_up (va_up RJ 2 (RJ 2)) 6 (RJ 6)) 7 (RJ 7))) ⟨(I 1), (I 3), (I 12), ((I 13) + 1), (R 3), (R 4), (R 5), (RJ 2), (RJ 6), (RJ 7), ⟨(lo_0 hRA c_1).2, hM.1, hM.2.1, hM.2.2.1, hM.2.2.2.1, hM.2.2.2.2.1, (lo_0 hRA c_1).1⟩, rfl⟩ hP hD hS dX10_loose_13
theorem dX10_as_0 : decode cX10_as 0 = .ok (.aload_n 0, 1) := by decide +kernel
theorem dX10_as_1 : decode cX10_as 1 = .ok (.iload_n 1, 1) := by decide +kernel
set_option maxRecDepth 20000 in
theorem ggX10_as_X10_isStone : GoodIn wsX10_as wsX10_isStone := goodIn_r _ [7, 8, 9, 10, 6, 11, 22, 23, 24, 25, 26, 27, 28, 29, 30, 31, 32, 33, 34, 35, 36, 37, 38, 39, 40, 41, 42, 43, 44, 45, 46, 47, 48, 49, 50, 51] rfl (by decide +kernel)
set_option maxRecDepth 20000 in
theorem gX10_as_X10_isStone : GoodIn wsX10_as (wsV RX10 178 RX10 yX10_isStone wsX10_isStone) := goodIn_app (goodIn_r _ [3, 4, 5, 6] rfl (by decide +kernel)) ggX10_as_X10_isStone
theorem dX10_as_2 : decode cX10_as 2 = .ok (.invokevirtual 178, 3) := by decide +kernel
theorem dX10_as_5 : decode cX10_as 5 = .ok (.ifCond .eq 12, 3) := by decide +kernel
theorem dX10_as_17 : decode cX10_as 17 = .ok (.aload_n 0, 1) := by decide +kernel
theorem dX10_as_18 : decode cX10_as 18 = .ok (.ldc 141, 2) := by decide +kernel
set_option maxRecDepth 20000 in
theorem ggX10_as_X10_finding : GoodIn wsX10_as wsX10_finding := goodIn_r _ [15, 16, 22, 23, 24, 25, 26, 27, 28, 29, 30, 31, 32, 33, 34, 35, 36, 37, 38, 39, 40, 41, 42, 43, 44, 45, 46, 47, 48, 49, 50, 51] rfl (by decide +kernel)
set_option maxRecDepth 20000 in
theorem gX10_as_X10_finding : GoodIn wsX10_as (wsV RX10 99 RX10 yX10_finding wsX10_finding) := goodIn_app (goodIn_r _ [12, 13, 14, 6] rfl (by decide +kernel)) ggX10_as_X10_finding
theorem dX10_as_20 : decode cX10_as 20 = .ok (.invokevirtual 99, 3) := by decide +kernel
theorem dX10_as_23 : decode cX10_as 23 = .ok (.ireturn, 1) := by decide +kernel
theorem dX10_as_8 : decode cX10_as 8 = .ok (.iload_n 2, 1) := by decide +kernel
theorem dX10_as_9 : decode cX10_as 9 = .ok (.iconst 0, 1) := by decide +kernel
theorem dX10_as_10 : decode cX10_as 10 = .ok (.iconst 3, 1) := by decide +kernel
set_option maxRecDepth 20000 in
theorem ggX10_as_X10_within : GoodIn wsX10_as wsX10_within := goodIn_r _ [11] rfl (by decide +kernel)
set_option maxRecDepth 20000 in
theorem gX10_as_X10_within : GoodIn wsX10_as (va_wsS RX10 70 yX10_within wsX10_within) := goodIn_app (goodIn_r _ [9, 10, 6] rfl (by decide +kernel)) ggX10_as_X10_within
theorem dX10_as_11 : decode cX10_as 11 = .ok (.invokestatic 70, 3) := by decide +kernel
theorem dX10_as_14 : decode cX10_as 14 = .ok (.ifCond .ne 10, 3) := by decide +kernel
theorem dX10_as_24 : decode cX10_as 24 = .ok (.aload_n 0, 1) := by decide +kernel
theorem dX10_as_25 : decode cX10_as 25 = .ok (.iload_n 1, 1) := by decide +kernel
set_option maxRecDepth 20000 in
theorem ggX10_as_X10_kindOf : GoodIn wsX10_as wsX10_kindOf := goodIn_r _ [20, 21, 22, 23, 24, 25, 26, 27, 28, 29, 30, 31, 32, 33, 34, 35, 36, 37, 38, 39, 40, 41, 42, 43, 44, 45, 46, 47, 48, 49, 50, 51] rfl (by decide +kernel)
set_option maxRecDepth 20000 in
theorem gX10_as_X10_kindOf : GoodIn wsX10_as (wsV RX10 103 RX10 yX10_kindOf wsX10_kindOf) := goodIn_app (goodIn_r _ [17, 18, 19, 6] rfl (by decide +kernel)) ggX10_as_X10_kindOf
theorem dX10_as_26 : decode cX10_as 26 = .ok (.invokevirtual 103, 3) := by decide +kernel
theorem dX10_as_29 : decode cX10_as 29 = .ok (.istore_n 3, 1) := by decide +kernel
theorem dX10_as_30 : decode cX10_as 30 = .ok (.iload_n 2, 1) := by decide +kernel
theorem dX10_as_31 : decode cX10_as 31 = .ok (.ifCond .eq 18, 3) := by decide +kernel
theorem dX10_as_49 : decode cX10_as 49 = .ok (.iload_n 1, 1) := by decide +kernel
theorem dX10_as_50 : decode cX10_as 50 = .ok (.goto 9, 3) := by decide +kernel
theorem dX10_as_59 : decode cX10_as 59 = .ok (.ireturn, 1) := by decide +kernel
theorem dX10_as_34 : decode cX10_as 34 = .ok (.iload_n 3, 1) := by decide +kernel
theorem dX10_as_35 : decode cX10_as 35 = .ok (.iload_n 2, 1) := by decide +kernel
theorem dX10_as_36 : decode cX10_as 36 = .ok (.if_icmp .eq 13, 3) := by decide +kernel
theorem dX10_as_39 : decode cX10_as 39 = .ok (.iload_n 2, 1) := by decide +kernel
theorem dX10_as_40 : decode cX10_as 40 = .ok (.iconst 1, 1) := by decide +kernel
theorem dX10_as_41 : decode cX10_as 41 = .ok (.if_icmp .ne 12, 3) := by decide +kernel
theorem dX10_as_53 : decode cX10_as 53 = .ok (.aload_n 0, 1) := by decide +kernel
theorem dX10_as_54 : decode cX10_as 54 = .ok (.ldc 133, 2) := by decide +kernel
theorem dX10_as_56 : decode cX10_as 56 = .ok (.invokevirtual 99, 3) := by decide +kernel
theorem dX10_as_44 : decode cX10_as 44 = .ok (.iload_n 3, 1) := by decide +kernel
theorem dX10_as_45 : decode cX10_as 45 = .ok (.iconst 2, 1) := by decide +kernel
theorem dX10_as_46 : decode cX10_as 46 = .ok (.if_icmp .ne 7, 3) := by decide +kernel
set_option maxHeartbeats 4000000 in
set_option maxRecDepth 100000 in
theorem x_X10_as (l : Launch) (D : va_G) (cy : Nat → ClassId) (a : Nat → Nat) (sz : Nat) (J : Nat → Int64) (I : Nat → Int32) (R : Nat → Nat → Int32) (RJ : Nat → Nat → Int64) (x0 : Int32) (x1 : Int32) (fl : Int64) (S : List Int32) (P : List PE) (hRA : RMf (J 0) (I 1) (I 12) (R 1) (R 3) (R 4) (RJ 2) fl S P) (hM : MI I R) : Met l yX10_as wsX10_as ({ frames := 2, cells := 0, slots := 0, locals := 43 }) (va_Pc [.ref (a 0), .int x0, .int x1] (PW D cy sz (MW cy a J I R RJ))) (va_Qi (fun r (u : MS) => ∃ (w0 : Int32), (r = (aAs S x0 x1) ∧ (RMf (J 0) (I 1) (I 12) (R 1) (R 3) (R 4) (RJ 2) fl S P)) ∧ u = (J, (va_up I 13 w0), R, RJ)) (BW D (va_A (MW cy a J I R RJ) sz) (MWu cy a)) (va_A (MW cy a J I R RJ) sz)) 0 0 (va_A (MW cy a J I R RJ) sz) := by
  refine Met.ofW (cc := cX10_as) (maxL := 4) (ret := (some .int)) (by decide) rfl ?_
  intro p e s m args below meth c s₁ B hml hv
  obtain ⟨rfl, rfl, hP, hK, hN, hD0⟩ := hv
  have hx := B.exec
  have hb := B.bytes
  have hr := B.returns
  have hts := atoms_spec (ws := wsX10_as) B.pre
  have hown : s.vm.findClass RX10 = some m.cls := findClass_of_methodNamed B.named
  have hlocks := B.notSynchronized
  have hw0 := hts (.constant RX10 141 (-100001)) (by decide +kernel)
  have hw1 := hts (.constant RX10 133 (-100004)) (by decide +kernel)
  have hD := hD0.self (sz := s.heap.size)
  generalize hAe : va_A (MW cy a J I R RJ) s.heap.size = A at hD ⊢
  have hA : ∀ q : Nat, s.heap.size ≤ q → A q := fun q h => by rw [← hAe]; exact Or.inr h
  have hS : va_S A s.heap s.heap [] := va_S.rf
  have hl := lv_entry ([.ref (a 0), .int x0, .int x1]) (n := 4) (Nat.le_of_ble_eq_true rfl)
  rw [lg_entry_eq]
  generalize (lg_sl ([.ref (a 0), .int x0, .int x1]) ++ List.replicate (4 - (lg_sl ([.ref (a 0), .int x0, .int x1])).length) Slot.unset).toArray = ls at hl ⊢
  have hl : lv_has ls 4 [(0, .ref (a 0)), (1, .int x0), (2, .int x1)] := hl
  obtain ⟨ns, hns, hI1, hSe⟩ := hRA.2.1
  have hP : va_P D vwCl (MW cy a J (va_up I 13 (I 13)) R RJ) s.heap := hP
  have hD : va_D A (MW cy a J (va_up I 13 (I 13)) R RJ) := hD
  refine lv_aload_n hx hb dX10_as_0 rfl (lv_at hl 0 rfl) ?_
  refine lv_iload_n hx hb dX10_as_1 rfl (lv_at hl 1 rfl) ?_
  refine kR_i (As := [.int x0]) (rest := []) (q0 := 0) ⟨hx, hb, hml, hown, hts⟩ (c_X10_isStone l D cy a _ J (va_up I 13 (I 13)) R RJ x0 ) (cwV 1 hts gX10_as_X10_isStone rfl rfl rfl (by decide +kernel) ⟨Nat.le_of_ble_eq_true rfl, Nat.le_of_ble_eq_true rfl⟩) hK hN hP hD rfl rfl rfl hl.1 rfl (Nat.le_of_ble_eq_true rfl) dX10_as_2 ⟨Nat.le_of_ble_eq_true rfl, Nat.le_of_ble_eq_true rfl⟩ ?_
  refine lv_if_eq (tgt := 17) hx hb dX10_as_5 (by decide) (fun c_1 => ?_) (fun c_1 => ?_)
  · replace c_1 := bI_f c_1
    refine lv_aload_n hx hb dX10_as_17 rfl (lv_at hl 0 rfl) ?_
    refine lv_ldc (v := (-100001)) hx hb hown hw0 dX10_as_18 ?_
    refine kM_i (As := [.int (-100001)]) (rest := []) (q0 := 0) ⟨hx, hb, hml, hown, hts⟩ (c_X10_finding l D cy a _ J (va_up I 13 (I 13)) R RJ (-100001) ) (cwV 1 hts gX10_as_X10_finding rfl rfl rfl (by decide +kernel) ⟨Nat.le_of_ble_eq_true rfl, Nat.le_of_ble_eq_true rfl⟩) hK hN hP hD hS hA rfl rfl rfl hl.1 rfl (Nat.le_of_ble_eq_true rfl) dX10_as_20 ⟨Nat.le_of_ble_eq_true rfl, Nat.le_of_ble_eq_true rfl⟩ (fun r_2 u H locs hw hP hD hS => ?_)
    obtain ⟨rfl, rfl⟩ := hw
    have hP : va_P D vwCl (MW cy a J (va_up I 13 ((I 13) + 1)) R RJ) H := hP
    have hD : va_D A (MW cy a J (va_up I 13 ((I 13) + 1)) R RJ) := hD
    exact wret_i hx hb hr hlocks (J, (va_up I 13 ((I 13) + 1)), R, RJ) ⟨((I 13) + 1), ⟨(as_1 (as_eL (x := x0) hns hI1 hSe) c_1), hRA⟩, rfl⟩ hP hD hS dX10_as_23
  · replace c_1 := bI_t c_1
    refine lv_iload_n hx hb dX10_as_8 rfl (lv_at hl 2 rfl) ?_
    refine lv_iconst (v := 0) hx hb dX10_as_9 (by decide) ?_
    refine lv_iconst (v := 3) hx hb dX10_as_10 (by decide) ?_
    refine kS_i (As := [.int x1, .int 0, .int 3]) (rest := []) ⟨hx, hb, hml, hown, hts⟩ (c_X10_within l x1 0 3) (va_cwS 3 hts gX10_as_X10_within rfl rfl rfl (by decide +kernel) ⟨Nat.le_of_ble_eq_true rfl, Nat.le_of_ble_eq_true rfl⟩) rfl hl.1 rfl (Nat.le_of_ble_eq_true rfl) dX10_as_11 ⟨Nat.le_of_ble_eq_true rfl, Nat.le_of_ble_eq_true rfl⟩ ?_
    refine lv_if_ne (tgt := 24) hx hb dX10_as_14 (by decide) (fun c_3 => ?_) (fun c_3 => ?_)
    · replace c_3 := bI_t c_3
      refine lv_aload_n hx hb dX10_as_24 rfl (lv_at hl 0 rfl) ?_
      refine lv_iload_n hx hb dX10_as_25 rfl (lv_at hl 1 rfl) ?_
      refine kR_i (As := [.int x0]) (rest := []) (q0 := 0) ⟨hx, hb, hml, hown, hts⟩ (c_X10_kindOf l D cy a _ J (va_up I 13 (I 13)) R RJ x0 (st_in hM.1 c_1)) (cwV 1 hts gX10_as_X10_kindOf rfl rfl rfl (by decide +kernel) ⟨Nat.le_of_ble_eq_true rfl, Nat.le_of_ble_eq_true rfl⟩) hK hN hP hD rfl rfl rfl hl.1 rfl (Nat.le_of_ble_eq_true rfl) dX10_as_26 ⟨Nat.le_of_ble_eq_true rfl, Nat.le_of_ble_eq_true rfl⟩ ?_
      refine lv_istore_n (lv' := [(3, .int (((R 1) x0.toNatClampNeg) &&& 3)), (0, .ref (a 0)), (1, .int x0), (2, .int x1)]) hx hb dX10_as_29 rfl hl (by decide) rfl (fun ls hl => ?_)
      refine lv_iload_n hx hb dX10_as_30 rfl (lv_at hl 3 rfl) ?_
      refine lv_if_eq (tgt := 49) hx hb dX10_as_31 (by decide) (fun c_4 => ?_) (fun c_4 => ?_)
      · refine lv_iload_n hx hb dX10_as_49 rfl (lv_at hl 2 rfl) ?_
        refine lv_goto (tgt := 59) hx hb dX10_as_50 (by decide) ?_
        exact wret_i hx hb hr hlocks (J, (va_up I 13 (I 13)), R, RJ) ⟨(I 13), ⟨(as_3 (as_eL (x := x0) hns hI1 hSe) c_1 c_3 (und_t1 c_4)), hRA⟩, rfl⟩ hP hD hS dX10_as_59
      · refine lv_iload_n hx hb dX10_as_34 rfl (lv_at hl 0 rfl) ?_
        refine lv_iload_n hx hb dX10_as_35 rfl (lv_at hl 3 rfl) ?_
        refine lv_icmp_eq (tgt := 49) hx hb dX10_as_36 (by decide) (fun c_5 => ?_) (fun c_5 => ?_)
        · refine lv_iload_n hx hb dX10_as_49 rfl (lv_at hl 2 rfl) ?_
          refine lv_goto (tgt := 59) hx hb dX10_as_50 (by decide) ?_
          exact wret_i hx hb hr hlocks (J, (va_up I 13 (I 13)), R, RJ) ⟨(I 13), ⟨(as_3 (as_eL (x := x0) hns hI1 hSe) c_1 c_3 (und_t2 c_5)), hRA⟩, rfl⟩ hP hD hS dX10_as_59
        · refine lv_iload_n hx hb dX10_as_39 rfl (lv_at hl 3 rfl) ?_
          refine lv_iconst (v := 1) hx hb dX10_as_40 (by decide) ?_
          refine lv_icmp_ne (tgt := 53) hx hb dX10_as_41 (by decide) (fun c_6 => ?_) (fun c_6 => ?_)
          · refine lv_aload_n hx hb dX10_as_53 rfl (lv_at hl 1 rfl) ?_
            refine lv_ldc (v := (-100004)) hx hb hown hw1 dX10_as_54 ?_
            refine kM_i (As := [.int (-100004)]) (rest := []) (q0 := 0) ⟨hx, hb, hml, hown, hts⟩ (c_X10_finding l D cy a _ J (va_up I 13 (I 13)) R RJ (-100004) ) (cwV 1 hts gX10_as_X10_finding rfl rfl rfl (by decide +kernel) ⟨Nat.le_of_ble_eq_true rfl, Nat.le_of_ble_eq_true rfl⟩) hK hN hP hD hS hA rfl rfl rfl hl.1 rfl (Nat.le_of_ble_eq_true rfl) dX10_as_56 ⟨Nat.le_of_ble_eq_true rfl, Nat.le_of_ble_eq_true rfl⟩ (fun r_7 u H locs hw hP hD hS => ?_)
            obtain ⟨rfl, rfl⟩ := hw
            have hP : va_P D vwCl (MW cy a J (va_up I 13 ((I 13) + 1)) R RJ) H := hP
            have hD : va_D A (MW cy a J (va_up I 13 ((I 13) + 1)) R RJ) := hD
            exact wret_i hx hb hr hlocks (J, (va_up I 13 ((I 13) + 1)), R, RJ) ⟨((I 13) + 1), ⟨(as_4 (as_eL (x := x0) hns hI1 hSe) c_1 c_3 (und_f1 c_4 c_5 c_6)), hRA⟩, rfl⟩ hP hD hS dX10_as_59
          · refine lv_iload_n hx hb dX10_as_44 rfl (lv_at hl 0 rfl) ?_
            refine lv_iconst (v := 2) hx hb dX10_as_45 (by decide) ?_
            refine lv_icmp_ne (tgt := 53) hx hb dX10_as_46 (by decide) (fun c_8 => ?_) (fun c_8 => ?_)
            · refine lv_aload_n hx hb dX10_as_53 rfl (lv_at hl 1 rfl) ?_
              refine lv_ldc (v := (-100004)) hx hb hown hw1 dX10_as_54 ?_
              refine kM_i (As := [.int (-100004)]) (rest := []) (q0 := 0) ⟨hx, hb, hml, hown, hts⟩ (c_X10_finding l D cy a _ J (va_up I 13 (I 13)) R RJ (-100004) ) (cwV 1 hts gX10_as_X10_finding rfl rfl rfl (by decide +kernel) ⟨Nat.le_of_ble_eq_true rfl, Nat.le_of_ble_eq_true rfl⟩) hK hN hP hD hS hA rfl rfl rfl hl.1 rfl (Nat.le_of_ble_eq_true rfl) dX10_as_56 ⟨Nat.le_of_ble_eq_true rfl, Nat.le_of_ble_eq_true rfl⟩ (fun r_9 u H locs hw hP hD hS => ?_)
              obtain ⟨rfl, rfl⟩ := hw
              have hP : va_P D vwCl (MW cy a J (va_up I 13 ((I 13) + 1)) R RJ) H := hP
              have hD : va_D A (MW cy a J (va_up I 13 ((I 13) + 1)) R RJ) := hD
              exact wret_i hx hb hr hlocks (J, (va_up I 13 ((I 13) + 1)), R, RJ) ⟨((I 13) + 1), ⟨(as_4 (as_eL (x := x0) hns hI1 hSe) c_1 c_3 (und_f2 c_4 c_5 c_8)), hRA⟩, rfl⟩ hP hD hS dX10_as_59
            · refine lv_iload_n hx hb dX10_as_49 rfl (lv_at hl 2 rfl) ?_
              refine lv_goto (tgt := 59) hx hb dX10_as_50 (by decide) ?_
              exact wret_i hx hb hr hlocks (J, (va_up I 13 (I 13)), R, RJ) ⟨(I 13), ⟨(as_3 (as_eL (x := x0) hns hI1 hSe) c_1 c_3 (und_t3 c_6 c_8)), hRA⟩, rfl⟩ hP hD hS dX10_as_59
    · replace c_3 := bI_f c_3
      refine lv_aload_n hx hb dX10_as_17 rfl (lv_at hl 0 rfl) ?_
      refine lv_ldc (v := (-100001)) hx hb hown hw0 dX10_as_18 ?_
      refine kM_i (As := [.int (-100001)]) (rest := []) (q0 := 0) ⟨hx, hb, hml, hown, hts⟩ (c_X10_finding l D cy a _ J (va_up I 13 (I 13)) R RJ (-100001) ) (cwV 1 hts gX10_as_X10_finding rfl rfl rfl (by decide +kernel) ⟨Nat.le_of_ble_eq_true rfl, Nat.le_of_ble_eq_true rfl⟩) hK hN hP hD hS hA rfl rfl rfl hl.1 rfl (Nat.le_of_ble_eq_true rfl) dX10_as_20 ⟨Nat.le_of_ble_eq_true rfl, Nat.le_of_ble_eq_true rfl⟩ (fun r_10 u H locs hw hP hD hS => ?_)
      obtain ⟨rfl, rfl⟩ := hw
      have hP : va_P D vwCl (MW cy a J (va_up I 13 ((I 13) + 1)) R RJ) H := hP
      have hD : va_D A (MW cy a J (va_up I 13 ((I 13) + 1)) R RJ) := hD
      exact wret_i hx hb hr hlocks (J, (va_up I 13 ((I 13) + 1)), R, RJ) ⟨((I 13) + 1), ⟨(as_2 (as_eL (x := x0) hns hI1 hSe) c_1 c_3), hRA⟩, rfl⟩ hP hD hS dX10_as_23
