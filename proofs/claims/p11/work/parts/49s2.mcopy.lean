theorem dX10_copy_165 : decode cX10_copy 165 = .ok (.iload 6, 2) := by decide +kernel
theorem dX10_copy_167 : decode cX10_copy 167 = .ok (.iload 5, 2) := by decide +kernel
theorem dX10_copy_169 : decode cX10_copy 169 = .ok (.if_icmp .ge 31, 3) := by decide +kernel
theorem dX10_copy_200 : decode cX10_copy 200 = .ok (.iload 5, 2) := by decide +kernel
theorem dX10_copy_202 : decode cX10_copy 202 = .ok (.ireturn, 1) := by decide +kernel
theorem dX10_copy_172 : decode cX10_copy 172 = .ok (.aload_n 0, 1) := by decide +kernel
theorem dX10_copy_173 : decode cX10_copy 173 = .ok (.getfield 39, 3) := by decide +kernel
theorem dX10_copy_176 : decode cX10_copy 176 = .ok (.bipush 16, 2) := by decide +kernel
theorem dX10_copy_178 : decode cX10_copy 178 = .ok (.iload_n 3, 1) := by decide +kernel
theorem dX10_copy_179 : decode cX10_copy 179 = .ok (.imul, 1) := by decide +kernel
theorem dX10_copy_180 : decode cX10_copy 180 = .ok (.iload 4, 2) := by decide +kernel
theorem dX10_copy_182 : decode cX10_copy 182 = .ok (.iadd, 1) := by decide +kernel
theorem dX10_copy_183 : decode cX10_copy 183 = .ok (.iload 6, 2) := by decide +kernel
theorem dX10_copy_185 : decode cX10_copy 185 = .ok (.iadd, 1) := by decide +kernel
theorem dX10_copy_186 : decode cX10_copy 186 = .ok (.aload_n 0, 1) := by decide +kernel
theorem dX10_copy_187 : decode cX10_copy 187 = .ok (.getfield 63, 3) := by decide +kernel
theorem dX10_copy_190 : decode cX10_copy 190 = .ok (.iload 6, 2) := by decide +kernel
theorem dX10_copy_192 : decode cX10_copy 192 = .ok (.iaload, 1) := by decide +kernel
theorem dX10_copy_193 : decode cX10_copy 193 = .ok (.iastore, 1) := by decide +kernel
theorem dX10_copy_194 : decode cX10_copy 194 = .ok (.iinc 6 1, 3) := by decide +kernel
theorem dX10_copy_197 : decode cX10_copy 197 = .ok (.goto (-32), 3) := by decide +kernel
theorem dX10_copy_128 : decode cX10_copy 128 = .ok (.iload 6, 2) := by decide +kernel
theorem dX10_copy_130 : decode cX10_copy 130 = .ok (.iload 5, 2) := by decide +kernel
theorem dX10_copy_132 : decode cX10_copy 132 = .ok (.if_icmp .ge 30, 3) := by decide +kernel
theorem dX10_copy_162 : decode cX10_copy 162 = .ok (.iconst 0, 1) := by decide +kernel
theorem dX10_copy_163 : decode cX10_copy 163 = .ok (.istore 6, 2) := by decide +kernel
theorem dX10_copy_135 : decode cX10_copy 135 = .ok (.aload_n 0, 1) := by decide +kernel
theorem dX10_copy_136 : decode cX10_copy 136 = .ok (.getfield 63, 3) := by decide +kernel
theorem dX10_copy_139 : decode cX10_copy 139 = .ok (.iload 6, 2) := by decide +kernel
theorem dX10_copy_141 : decode cX10_copy 141 = .ok (.aload_n 0, 1) := by decide +kernel
theorem dX10_copy_142 : decode cX10_copy 142 = .ok (.getfield 39, 3) := by decide +kernel
theorem dX10_copy_145 : decode cX10_copy 145 = .ok (.bipush 16, 2) := by decide +kernel
theorem dX10_copy_147 : decode cX10_copy 147 = .ok (.iload_n 1, 1) := by decide +kernel
theorem dX10_copy_148 : decode cX10_copy 148 = .ok (.imul, 1) := by decide +kernel
theorem dX10_copy_149 : decode cX10_copy 149 = .ok (.iload_n 2, 1) := by decide +kernel
theorem dX10_copy_150 : decode cX10_copy 150 = .ok (.iadd, 1) := by decide +kernel
theorem dX10_copy_151 : decode cX10_copy 151 = .ok (.iload 6, 2) := by decide +kernel
theorem dX10_copy_153 : decode cX10_copy 153 = .ok (.iadd, 1) := by decide +kernel
theorem dX10_copy_154 : decode cX10_copy 154 = .ok (.iaload, 1) := by decide +kernel
theorem dX10_copy_155 : decode cX10_copy 155 = .ok (.iastore, 1) := by decide +kernel
theorem dX10_copy_156 : decode cX10_copy 156 = .ok (.iinc 6 1, 3) := by decide +kernel
theorem dX10_copy_159 : decode cX10_copy 159 = .ok (.goto (-31), 3) := by decide +kernel
theorem dX10_copy_0 : decode cX10_copy 0 = .ok (.iload_n 1, 1) := by decide +kernel
set_option maxRecDepth 20000 in
theorem ggX10_copy_X10_isSheet : GoodIn wsX10_copy wsX10_isSheet := goodIn_r _ [11, 12, 13, 10, 14] rfl (by decide +kernel)
set_option maxRecDepth 20000 in
theorem gX10_copy_X10_isSheet : GoodIn wsX10_copy (va_wsS RX10 298 yX10_isSheet wsX10_isSheet) := goodIn_app (goodIn_r _ [8, 9, 10] rfl (by decide +kernel)) ggX10_copy_X10_isSheet
theorem dX10_copy_1 : decode cX10_copy 1 = .ok (.invokestatic 298, 3) := by decide +kernel
theorem dX10_copy_4 : decode cX10_copy 4 = .ok (.ifCond .eq 10, 3) := by decide +kernel
theorem dX10_copy_14 : decode cX10_copy 14 = .ok (.aload_n 0, 1) := by decide +kernel
theorem dX10_copy_15 : decode cX10_copy 15 = .ok (.ldc 141, 2) := by decide +kernel
set_option maxRecDepth 20000 in
theorem ggX10_copy_X10_finding : GoodIn wsX10_copy wsX10_finding := goodIn_r _ [18, 19, 20, 21, 22, 23, 24, 25, 26, 27, 28, 29, 30, 31, 32, 33, 34, 35, 36, 37, 38, 39, 40, 41, 42, 43, 44, 45, 46, 47, 48, 49] rfl (by decide +kernel)
set_option maxRecDepth 20000 in
theorem gX10_copy_X10_finding : GoodIn wsX10_copy (wsV RX10 99 RX10 yX10_finding wsX10_finding) := goodIn_app (goodIn_r _ [15, 16, 17, 10] rfl (by decide +kernel)) ggX10_copy_X10_finding
theorem dX10_copy_17 : decode cX10_copy 17 = .ok (.invokevirtual 99, 3) := by decide +kernel
theorem dX10_copy_20 : decode cX10_copy 20 = .ok (.ireturn, 1) := by decide +kernel
theorem dX10_copy_7 : decode cX10_copy 7 = .ok (.iload_n 3, 1) := by decide +kernel
theorem dX10_copy_8 : decode cX10_copy 8 = .ok (.invokestatic 298, 3) := by decide +kernel
theorem dX10_copy_11 : decode cX10_copy 11 = .ok (.ifCond .ne 10, 3) := by decide +kernel
theorem dX10_copy_21 : decode cX10_copy 21 = .ok (.aload_n 0, 1) := by decide +kernel
theorem dX10_copy_22 : decode cX10_copy 22 = .ok (.getfield 33, 3) := by decide +kernel
theorem dX10_copy_25 : decode cX10_copy 25 = .ok (.iload_n 1, 1) := by decide +kernel
theorem dX10_copy_26 : decode cX10_copy 26 = .ok (.iaload, 1) := by decide +kernel
theorem dX10_copy_27 : decode cX10_copy 27 = .ok (.ifCond .eq 12, 3) := by decide +kernel
theorem dX10_copy_39 : decode cX10_copy 39 = .ok (.aload_n 0, 1) := by decide +kernel
theorem dX10_copy_40 : decode cX10_copy 40 = .ok (.ldc_w 301, 3) := by decide +kernel
theorem dX10_copy_43 : decode cX10_copy 43 = .ok (.invokevirtual 99, 3) := by decide +kernel
theorem dX10_copy_46 : decode cX10_copy 46 = .ok (.ireturn, 1) := by decide +kernel
theorem dX10_copy_30 : decode cX10_copy 30 = .ok (.aload_n 0, 1) := by decide +kernel
theorem dX10_copy_31 : decode cX10_copy 31 = .ok (.getfield 33, 3) := by decide +kernel
theorem dX10_copy_34 : decode cX10_copy 34 = .ok (.iload_n 3, 1) := by decide +kernel
theorem dX10_copy_35 : decode cX10_copy 35 = .ok (.iaload, 1) := by decide +kernel
theorem dX10_copy_36 : decode cX10_copy 36 = .ok (.ifCond .ne 11, 3) := by decide +kernel
theorem dX10_copy_47 : decode cX10_copy 47 = .ok (.aload_n 0, 1) := by decide +kernel
theorem dX10_copy_48 : decode cX10_copy 48 = .ok (.getfield 33, 3) := by decide +kernel
theorem dX10_copy_51 : decode cX10_copy 51 = .ok (.iload_n 1, 1) := by decide +kernel
theorem dX10_copy_52 : decode cX10_copy 52 = .ok (.iaload, 1) := by decide +kernel
theorem dX10_copy_53 : decode cX10_copy 53 = .ok (.aload_n 0, 1) := by decide +kernel
theorem dX10_copy_54 : decode cX10_copy 54 = .ok (.getfield 33, 3) := by decide +kernel
theorem dX10_copy_57 : decode cX10_copy 57 = .ok (.iload_n 3, 1) := by decide +kernel
theorem dX10_copy_58 : decode cX10_copy 58 = .ok (.iaload, 1) := by decide +kernel
theorem dX10_copy_59 : decode cX10_copy 59 = .ok (.if_icmp .eq 10, 3) := by decide +kernel
theorem dX10_copy_69 : decode cX10_copy 69 = .ok (.iload_n 2, 1) := by decide +kernel
theorem dX10_copy_70 : decode cX10_copy 70 = .ok (.ifCond .lt 48, 3) := by decide +kernel
theorem dX10_copy_118 : decode cX10_copy 118 = .ok (.aload_n 0, 1) := by decide +kernel
theorem dX10_copy_119 : decode cX10_copy 119 = .ok (.ldc 141, 2) := by decide +kernel
theorem dX10_copy_121 : decode cX10_copy 121 = .ok (.invokevirtual 99, 3) := by decide +kernel
theorem dX10_copy_124 : decode cX10_copy 124 = .ok (.ireturn, 1) := by decide +kernel
theorem dX10_copy_73 : decode cX10_copy 73 = .ok (.iload 4, 2) := by decide +kernel
theorem dX10_copy_75 : decode cX10_copy 75 = .ok (.ifCond .lt 43, 3) := by decide +kernel
theorem dX10_copy_78 : decode cX10_copy 78 = .ok (.iload 5, 2) := by decide +kernel
theorem dX10_copy_80 : decode cX10_copy 80 = .ok (.ifCond .lt 38, 3) := by decide +kernel
theorem dX10_copy_83 : decode cX10_copy 83 = .ok (.iload_n 2, 1) := by decide +kernel
theorem dX10_copy_84 : decode cX10_copy 84 = .ok (.i2l, 1) := by decide +kernel
theorem dX10_copy_85 : decode cX10_copy 85 = .ok (.iload 5, 2) := by decide +kernel
theorem dX10_copy_87 : decode cX10_copy 87 = .ok (.i2l, 1) := by decide +kernel
theorem dX10_copy_88 : decode cX10_copy 88 = .ok (.ladd, 1) := by decide +kernel
theorem dX10_copy_89 : decode cX10_copy 89 = .ok (.aload_n 0, 1) := by decide +kernel
theorem dX10_copy_90 : decode cX10_copy 90 = .ok (.getfield 36, 3) := by decide +kernel
theorem dX10_copy_93 : decode cX10_copy 93 = .ok (.iload_n 1, 1) := by decide +kernel
theorem dX10_copy_94 : decode cX10_copy 94 = .ok (.iaload, 1) := by decide +kernel
theorem dX10_copy_95 : decode cX10_copy 95 = .ok (.i2l, 1) := by decide +kernel
theorem dX10_copy_96 : decode cX10_copy 96 = .ok (.lcmp, 1) := by decide +kernel
theorem dX10_copy_97 : decode cX10_copy 97 = .ok (.ifCond .gt 21, 3) := by decide +kernel
theorem dX10_copy_100 : decode cX10_copy 100 = .ok (.iload 4, 2) := by decide +kernel
theorem dX10_copy_102 : decode cX10_copy 102 = .ok (.i2l, 1) := by decide +kernel
theorem dX10_copy_103 : decode cX10_copy 103 = .ok (.iload 5, 2) := by decide +kernel
theorem dX10_copy_105 : decode cX10_copy 105 = .ok (.i2l, 1) := by decide +kernel
theorem dX10_copy_106 : decode cX10_copy 106 = .ok (.ladd, 1) := by decide +kernel
theorem dX10_copy_107 : decode cX10_copy 107 = .ok (.aload_n 0, 1) := by decide +kernel
theorem dX10_copy_108 : decode cX10_copy 108 = .ok (.getfield 36, 3) := by decide +kernel
theorem dX10_copy_111 : decode cX10_copy 111 = .ok (.iload_n 3, 1) := by decide +kernel
theorem dX10_copy_112 : decode cX10_copy 112 = .ok (.iaload, 1) := by decide +kernel
theorem dX10_copy_113 : decode cX10_copy 113 = .ok (.i2l, 1) := by decide +kernel
theorem dX10_copy_114 : decode cX10_copy 114 = .ok (.lcmp, 1) := by decide +kernel
theorem dX10_copy_115 : decode cX10_copy 115 = .ok (.ifCond .le 10, 3) := by decide +kernel
theorem dX10_copy_125 : decode cX10_copy 125 = .ok (.iconst 0, 1) := by decide +kernel
theorem dX10_copy_126 : decode cX10_copy 126 = .ok (.istore 6, 2) := by decide +kernel
theorem dX10_copy_62 : decode cX10_copy 62 = .ok (.aload_n 0, 1) := by decide +kernel
theorem dX10_copy_63 : decode cX10_copy 63 = .ok (.ldc 133, 2) := by decide +kernel
theorem dX10_copy_65 : decode cX10_copy 65 = .ok (.invokevirtual 99, 3) := by decide +kernel
theorem dX10_copy_68 : decode cX10_copy 68 = .ok (.ireturn, 1) := by decide +kernel
set_option maxRecDepth 20000 in
theorem ihX10_copy_10 : ∀ w ∈ u_ws RX10 TX10 30, w ∈ wsX10_copy := fun _ h => List.mem_cons_of_mem _ (List.mem_append_right _ h)
set_option maxHeartbeats 4000000 in
set_option maxRecDepth 100000 in
theorem x_X10_copy (l : Launch) (D : va_G) (cy : Nat → ClassId) (a : Nat → Nat) (sz : Nat) (J : Nat → Int64) (I : Nat → Int32) (R : Nat → Nat → Int32) (RJ : Nat → Nat → Int64) (x0 : Int32) (x1 : Int32) (x2 : Int32) (x3 : Int32) (x4 : Int32) (Bs : Nat → Int32) (Zs : Nat → Int32) (Vs : Nat → Nat → Int32) (hSh : RMs (R 8) (R 9) (R 10) Bs Zs Vs) (hM : MI I R) : Met l yX10_copy wsX10_copy ({ frames := 2, cells := 0, slots := 0, locals := 42 }) (va_Pc [.ref (a 0), .int x0, .int x1, .int x2, .int x3, .int x4] (PW D cy sz (MW cy a J I R RJ))) (va_Qi (fun r (u : MS) => ∃ (w0 : Int32), ∃ (w1 : Nat → Int32), ∃ (w2 : Nat → Int32), (r = (aCpA Bs Zs x0 x1 x2 x3 x4) ∧ (RMs (R 8) (R 9) w1 Bs Zs (aCpV Bs Zs Vs x0 x1 x2 x3 x4))) ∧ u = (J, (va_up I 13 w0), (va_up (va_up R 10 w1) 18 w2), RJ)) (BW D (va_A (MW cy a J I R RJ) sz) (MWu cy a)) (va_A (MW cy a J I R RJ) sz)) 0 0 (va_A (MW cy a J I R RJ) sz) := by
  refine Met.ofW (cc := cX10_copy) (maxL := 7) (ret := (some .int)) (by decide) rfl ?_
  intro p e s m args below meth c s₁ B hml hv
  obtain ⟨rfl, rfl, hP, hK, hN, hD0⟩ := hv
  have hx := B.exec
  have hb := B.bytes
  have hr := B.returns
  have hts := atoms_spec (ws := wsX10_copy) B.pre
  have hown : s.vm.findClass RX10 = some m.cls := findClass_of_methodNamed B.named
  have hlocks := B.notSynchronized
  have hw0 := hts (.fieldLink RX10 39 "ParquetLayerModel" "sheets" "[I") (by decide +kernel)
  have hw1 := hts (.fieldLink RX10 63 "ParquetLayerModel" "carried" "[I") (by decide +kernel)
  have hw2 := hts (.constant RX10 141 (-100001)) (by decide +kernel)
  have hw3 := hts (.fieldLink RX10 33 "ParquetLayerModel" "bits" "[I") (by decide +kernel)
  have hw4 := hts (.constant RX10 301 (-100002)) (by decide +kernel)
  have hw5 := hts (.fieldLink RX10 36 "ParquetLayerModel" "sizes" "[I") (by decide +kernel)
  have hw6 := hts (.constant RX10 133 (-100004)) (by decide +kernel)
  have hi10 := ihX10_copy_10
  have hD := hD0.self (sz := s.heap.size)
  generalize hAe : va_A (MW cy a J I R RJ) s.heap.size = A at hD ⊢
  have hA : ∀ q : Nat, s.heap.size ≤ q → A q := fun q h => by rw [← hAe]; exact Or.inr h
  have hS : va_S A s.heap s.heap [] := va_S.rf
  have hl := lv_entry ([.ref (a 0), .int x0, .int x1, .int x2, .int x3, .int x4]) (n := 7) (Nat.le_of_ble_eq_true rfl)
  rw [lg_entry_eq]
  generalize (lg_sl ([.ref (a 0), .int x0, .int x1, .int x2, .int x3, .int x4]) ++ List.replicate (7 - (lg_sl ([.ref (a 0), .int x0, .int x1, .int x2, .int x3, .int x4])).length) Slot.unset).toArray = ls at hl ⊢
  have hl : lv_has ls 7 [(0, .ref (a 0)), (1, .int x0), (2, .int x1), (3, .int x2), (4, .int x3), (5, .int x4)] := hl
  have hP : va_P D vwCl (MW cy a J (va_up I 13 (I 13)) (va_up (va_up R 10 (R 10)) 18 (R 18)) RJ) s.heap := hP
  have hD : va_D A (MW cy a J (va_up I 13 (I 13)) (va_up (va_up R 10 (R 10)) 18 (R 18)) RJ) := hD
  have lp165 : ∀ (n165 : Nat), ∀ (i : Nat) (m0_165 : Int32) (m1_165 : Nat → Int32) (m2_165 : Nat → Int32), (i ≤ x4.toNatClampNeg) → (cpOk x0 x1 x2 x3 x4) → (cWhy Bs Zs x0 x1 x2 x3 x4 = 0) → (ci1 (R 10) m2_165 x0 x1 x4.toNatClampNeg) → (ci2 (R 10) m1_165 m2_165 x2.toNatClampNeg x3.toNatClampNeg i) → (x4.toNatClampNeg - i) < n165 → ∀ (H : Heap) (locs : List Loc), va_P D vwCl (MW cy a J (va_up I 13 m0_165) (va_up (va_up R 10 m1_165) 18 m2_165) RJ) H → va_D A (MW cy a J (va_up I 13 m0_165) (va_up (va_up R 10 m1_165) 18 m2_165) RJ) → va_S A s.heap H locs → ∀ (ls : Array Slot), lv_has ls 7 [(0, .ref (a 0)), (1, .int x0), (2, .int x1), (3, .int x2), (4, .int x3), (5, .int x4), (6, .int (nI i))] → W p l e (headSpec wsX10_copy ({ frames := 2, cells := 0, slots := 0, locals := 42 })).room s m ([.ref (a 0), .int x0, .int x1, .int x2, .int x3, .int x4] : List Value).toArray below meth c H locs 0 0 (MQ below (va_Qi (fun r (u : MS) => ∃ (w0 : Int32), ∃ (w1 : Nat → Int32), ∃ (w2 : Nat → Int32), (r = (aCpA Bs Zs x0 x1 x2 x3 x4) ∧ (RMs (R 8) (R 9) w1 Bs Zs (aCpV Bs Zs Vs x0 x1 x2 x3 x4))) ∧ u = (J, (va_up I 13 w0), (va_up (va_up R 10 w1) 18 w2), RJ)) (BW D A (MWu cy a)) A) ([.ref (a 0), .int x0, .int x1, .int x2, .int x3, .int x4] : List Value).toArray s 0 0 A) (F0 m 165 ls []) := by
    intro n165
    induction n165 with
    | zero => intro i m0_165 m1_165 m2_165 hi hcp hcw h1c h2c hn; exact absurd hn (Nat.not_lt_zero _)
    | succ n165 ih165 =>
      intro i m0_165 m1_165 m2_165 hi hcp hcw h1c h2c hn165 H locs hP hD hS ls hl
      refine lv_iload hx hb dX10_copy_165 (lv_at hl 6 rfl) ?_
      refine lv_iload hx hb dX10_copy_167 (lv_at hl 5 rfl) ?_
      refine lv_icmp_ge (tgt := 200) hx hb dX10_copy_169 (by decide) (fun c_1 => ?_) (fun c_1 => ?_)
      · have hie := ce_ge hcp hi c_1
        refine lv_iload hx hb dX10_copy_200 (lv_at hl 5 rfl) ?_
        exact wret_i hx hb hr hlocks (J, (va_up I 13 m0_165), (va_up (va_up R 10 m1_165) 18 m2_165), RJ) ⟨m0_165, m1_165, m2_165, ⟨(cp_yes (V := Vs) hcw).1, (cp_end hSh hcp hcw hie h1c h2c)⟩, rfl⟩ hP hD hS dX10_copy_202
      · have hq := c_1
        have hlt := cl_lt hi c_1
        have h16 := ce_16 hcp
        refine lv_aload_n hx hb dX10_copy_172 rfl (lv_at hl 0 rfl) ?_
        refine va_get (D := D) (ci := 9) (v := .ref (a 10)) (C := RX10) (T := TX10) (N := 30) hx hb hts hi10 hown hK hP 0 rfl rfl 16 (by decide) hw0 (fun _ h9 => h9) rfl dX10_copy_173 ?_
        refine lv_bipush (v := 16) hx hb dX10_copy_176 (by decide) ?_
        refine lv_iload_n hx hb dX10_copy_178 rfl (lv_at hl 3 rfl) ?_
        refine lv_imul hx hb dX10_copy_179 ?_
        refine lv_iload hx hb dX10_copy_180 (lv_at hl 4 rfl) ?_
        refine lv_iadd hx hb dX10_copy_182 ?_
        refine lv_iload hx hb dX10_copy_183 (lv_at hl 6 rfl) ?_
        refine lv_iadd hx hb dX10_copy_185 ?_
        refine lv_aload_n hx hb dX10_copy_186 rfl (lv_at hl 0 rfl) ?_
        refine va_get (D := D) (ci := 9) (v := .ref (a 18)) (C := RX10) (T := TX10) (N := 30) hx hb hts hi10 hown hK hP 0 rfl rfl 29 (by decide) hw1 (fun _ h9 => h9) rfl dX10_copy_187 ?_
        refine lv_iload hx hb dX10_copy_190 (lv_at hl 6 rfl) ?_
        refine va_iald hx hb hK hP 18 0 rfl rfl (vp_in_nI (show i < 16 by omega) (by decide)) dX10_copy_192 ?_
        refine va_iast hx hb hK hP hD hS 10 0 rfl rfl (cp_i2 hcp (by omega) hq) dX10_copy_193 (fun H locs hP hD hS => ?_)
        have hP : va_P D vwCl (MW cy a J (va_up I 13 m0_165) (va_up (va_up R 10 (upd m1_165 (((16 * x2) + x3) + (nI i)).toNatClampNeg (m2_165 (nI i).toNatClampNeg))) 18 m2_165) RJ) H := hP
        have hD : va_D A (MW cy a J (va_up I 13 m0_165) (va_up (va_up R 10 (upd m1_165 (((16 * x2) + x3) + (nI i)).toNatClampNeg (m2_165 (nI i).toNatClampNeg))) 18 m2_165) RJ) := hD
        refine lv_iinc (v := nI (i + 1)) (lv' := [(6, .int (nI (i + 1))), (0, .ref (a 0)), (1, .int x0), (2, .int x1), (3, .int x2), (4, .int x3), (5, .int x4)]) hx hb dX10_copy_194 hl (k := 6) rfl (nI_1 _) (by decide) rfl (fun ls hl => ?_)
        refine lv_goto (tgt := 165) hx hb dX10_copy_197 (by decide) ?_
        exact ih165 (i + 1) m0_165 (upd m1_165 (((16 * x2) + x3) + (nI i)).toNatClampNeg (m2_165 (nI i).toNatClampNeg)) m2_165 hlt hcp hcw h1c (ci2_s hcp hq (by omega) h2c) (lt_dec hlt hn165) _ _ hP hD hS ls (lv_sub hl [1, 2, 3, 4, 5, 6, 0] rfl)
  have lp128 : ∀ (n128 : Nat), ∀ (i : Nat) (m0_128 : Int32) (m1_128 : Nat → Int32) (m2_128 : Nat → Int32), (i ≤ x4.toNatClampNeg) → (cpOk x0 x1 x2 x3 x4) → (cWhy Bs Zs x0 x1 x2 x3 x4 = 0) → (m1_128 = R 10) → (ci1 (R 10) m2_128 x0 x1 i) → (x4.toNatClampNeg - i) < n128 → ∀ (H : Heap) (locs : List Loc), va_P D vwCl (MW cy a J (va_up I 13 m0_128) (va_up (va_up R 10 m1_128) 18 m2_128) RJ) H → va_D A (MW cy a J (va_up I 13 m0_128) (va_up (va_up R 10 m1_128) 18 m2_128) RJ) → va_S A s.heap H locs → ∀ (ls : Array Slot), lv_has ls 7 [(0, .ref (a 0)), (1, .int x0), (2, .int x1), (3, .int x2), (4, .int x3), (5, .int x4), (6, .int (nI i))] → W p l e (headSpec wsX10_copy ({ frames := 2, cells := 0, slots := 0, locals := 42 })).room s m ([.ref (a 0), .int x0, .int x1, .int x2, .int x3, .int x4] : List Value).toArray below meth c H locs 0 0 (MQ below (va_Qi (fun r (u : MS) => ∃ (w0 : Int32), ∃ (w1 : Nat → Int32), ∃ (w2 : Nat → Int32), (r = (aCpA Bs Zs x0 x1 x2 x3 x4) ∧ (RMs (R 8) (R 9) w1 Bs Zs (aCpV Bs Zs Vs x0 x1 x2 x3 x4))) ∧ u = (J, (va_up I 13 w0), (va_up (va_up R 10 w1) 18 w2), RJ)) (BW D A (MWu cy a)) A) ([.ref (a 0), .int x0, .int x1, .int x2, .int x3, .int x4] : List Value).toArray s 0 0 A) (F0 m 128 ls []) := by
    intro n128
    induction n128 with
    | zero => intro i m0_128 m1_128 m2_128 hi hcp hcw h10 h1c hn; exact absurd hn (Nat.not_lt_zero _)
    | succ n128 ih128 =>
      intro i m0_128 m1_128 m2_128 hi hcp hcw h10 h1c hn128 H locs hP hD hS ls hl
      refine lv_iload hx hb dX10_copy_128 (lv_at hl 6 rfl) ?_
      refine lv_iload hx hb dX10_copy_130 (lv_at hl 5 rfl) ?_
      refine lv_icmp_ge (tgt := 162) hx hb dX10_copy_132 (by decide) (fun c_2 => ?_) (fun c_2 => ?_)
      · have hie := ce_ge hcp hi c_2
        refine lv_iconst (v := 0) hx hb dX10_copy_162 (by decide) ?_
        refine lv_istore (lv' := [(6, .int 0), (0, .ref (a 0)), (1, .int x0), (2, .int x1), (3, .int x2), (4, .int x3), (5, .int x4)]) hx hb dX10_copy_163 hl (by decide) rfl (fun ls hl => ?_)
        exact lp165 _ 0 m0_128 m1_128 m2_128 (Nat.zero_le _) hcp hcw (by rw [hie] at h1c; exact h1c) (ci2_0 h10) (Nat.lt_succ_self _) _ _ hP hD hS ls (lv_sub hl [1, 2, 3, 4, 5, 6, 0] rfl)
      · have hq := c_2
        have hlt := cl_lt hi c_2
        have h16 := ce_16 hcp
        refine lv_aload_n hx hb dX10_copy_135 rfl (lv_at hl 0 rfl) ?_
        refine va_get (D := D) (ci := 9) (v := .ref (a 18)) (C := RX10) (T := TX10) (N := 30) hx hb hts hi10 hown hK hP 0 rfl rfl 29 (by decide) hw1 (fun _ h9 => h9) rfl dX10_copy_136 ?_
        refine lv_iload hx hb dX10_copy_139 (lv_at hl 6 rfl) ?_
        refine lv_aload_n hx hb dX10_copy_141 rfl (lv_at hl 0 rfl) ?_
        refine va_get (D := D) (ci := 9) (v := .ref (a 10)) (C := RX10) (T := TX10) (N := 30) hx hb hts hi10 hown hK hP 0 rfl rfl 16 (by decide) hw0 (fun _ h9 => h9) rfl dX10_copy_142 ?_
        refine lv_bipush (v := 16) hx hb dX10_copy_145 (by decide) ?_
        refine lv_iload_n hx hb dX10_copy_147 rfl (lv_at hl 1 rfl) ?_
        refine lv_imul hx hb dX10_copy_148 ?_
        refine lv_iload_n hx hb dX10_copy_149 rfl (lv_at hl 2 rfl) ?_
        refine lv_iadd hx hb dX10_copy_150 ?_
        refine lv_iload hx hb dX10_copy_151 (lv_at hl 6 rfl) ?_
        refine lv_iadd hx hb dX10_copy_153 ?_
        refine va_iald hx hb hK hP 10 0 rfl rfl (cp_i1 hcp (by omega) hq) dX10_copy_154 ?_
        refine va_iast hx hb hK hP hD hS 18 0 rfl rfl (vp_in_nI (show i < 16 by omega) (by decide)) dX10_copy_155 (fun H locs hP hD hS => ?_)
        have hP : va_P D vwCl (MW cy a J (va_up I 13 m0_128) (va_up (va_up R 10 m1_128) 18 (upd m2_128 (nI i).toNatClampNeg (m1_128 (((16 * x0) + x1) + (nI i)).toNatClampNeg))) RJ) H := hP
        have hD : va_D A (MW cy a J (va_up I 13 m0_128) (va_up (va_up R 10 m1_128) 18 (upd m2_128 (nI i).toNatClampNeg (m1_128 (((16 * x0) + x1) + (nI i)).toNatClampNeg))) RJ) := hD
        refine lv_iinc (v := nI (i + 1)) (lv' := [(6, .int (nI (i + 1))), (0, .ref (a 0)), (1, .int x0), (2, .int x1), (3, .int x2), (4, .int x3), (5, .int x4)]) hx hb dX10_copy_156 hl (k := 6) rfl (nI_1 _) (by decide) rfl (fun ls hl => ?_)
        refine lv_goto (tgt := 128) hx hb dX10_copy_159 (by decide) ?_
        exact ih128 (i + 1) m0_128 m1_128 (upd m2_128 (nI i).toNatClampNeg (m1_128 (((16 * x0) + x1) + (nI i)).toNatClampNeg)) hlt hcp hcw h10 (by rw [h10]; exact ci1_s (by omega) h1c) (lt_dec hlt hn128) _ _ hP hD hS ls (lv_sub hl [1, 2, 3, 4, 5, 6, 0] rfl)
  refine lv_iload_n hx hb dX10_copy_0 rfl (lv_at hl 1 rfl) ?_
  refine kS_i (As := [.int x0]) (rest := []) ⟨hx, hb, hml, hown, hts⟩ (c_X10_isSheet l x0) (va_cwS 1 hts gX10_copy_X10_isSheet rfl rfl rfl (by decide +kernel) ⟨Nat.le_of_ble_eq_true rfl, Nat.le_of_ble_eq_true rfl⟩) rfl hl.1 rfl (Nat.le_of_ble_eq_true rfl) dX10_copy_1 ⟨Nat.le_of_ble_eq_true rfl, Nat.le_of_ble_eq_true rfl⟩ ?_
  refine lv_if_eq (tgt := 14) hx hb dX10_copy_4 (by decide) (fun c_3 => ?_) (fun c_3 => ?_)
  · replace c_3 := bI_f c_3
    refine lv_aload_n hx hb dX10_copy_14 rfl (lv_at hl 0 rfl) ?_
    refine lv_ldc (v := (-100001)) hx hb hown hw2 dX10_copy_15 ?_
    refine kM_i (As := [.int (-100001)]) (rest := []) (q0 := 0) ⟨hx, hb, hml, hown, hts⟩ (c_X10_finding l D cy a _ J (va_up I 13 (I 13)) (va_up (va_up R 10 (R 10)) 18 (R 18)) RJ (-100001) ) (cwV 1 hts gX10_copy_X10_finding rfl rfl rfl (by decide +kernel) ⟨Nat.le_of_ble_eq_true rfl, Nat.le_of_ble_eq_true rfl⟩) hK hN hP hD hS hA rfl rfl rfl hl.1 rfl (Nat.le_of_ble_eq_true rfl) dX10_copy_17 ⟨Nat.le_of_ble_eq_true rfl, Nat.le_of_ble_eq_true rfl⟩ (fun r_4 u H locs hw hP hD hS => ?_)
    obtain ⟨rfl, rfl⟩ := hw
    have hP : va_P D vwCl (MW cy a J (va_up I 13 ((I 13) + 1)) (va_up (va_up R 10 (R 10)) 18 (R 18)) RJ) H := hP
    have hD : va_D A (MW cy a J (va_up I 13 ((I 13) + 1)) (va_up (va_up R 10 (R 10)) 18 (R 18)) RJ) := hD
    exact wret_i hx hb hr hlocks (J, (va_up I 13 ((I 13) + 1)), (va_up (va_up R 10 (R 10)) 18 (R 18)), RJ) ⟨((I 13) + 1), (R 10), (R 18), ⟨(cp_no (V := Vs) (cw1 (by rw [c_3]; rfl)) (by decide)).1, (by rw [(cp_no (cw1 (by rw [c_3]; rfl)) (by decide)).2]; exact hSh)⟩, rfl⟩ hP hD hS dX10_copy_20
  · replace c_3 := bI_t c_3
    refine lv_iload_n hx hb dX10_copy_7 rfl (lv_at hl 3 rfl) ?_
    refine kS_i (As := [.int x2]) (rest := []) ⟨hx, hb, hml, hown, hts⟩ (c_X10_isSheet l x2) (va_cwS 1 hts gX10_copy_X10_isSheet rfl rfl rfl (by decide +kernel) ⟨Nat.le_of_ble_eq_true rfl, Nat.le_of_ble_eq_true rfl⟩) rfl hl.1 rfl (Nat.le_of_ble_eq_true rfl) dX10_copy_8 ⟨Nat.le_of_ble_eq_true rfl, Nat.le_of_ble_eq_true rfl⟩ ?_
    refine lv_if_ne (tgt := 21) hx hb dX10_copy_11 (by decide) (fun c_5 => ?_) (fun c_5 => ?_)
    · replace c_5 := bI_t c_5
      refine lv_aload_n hx hb dX10_copy_21 rfl (lv_at hl 0 rfl) ?_
      refine va_get (D := D) (ci := 9) (v := .ref (a 8)) (C := RX10) (T := TX10) (N := 30) hx hb hts hi10 hown hK hP 0 rfl rfl 14 (by decide) hw3 (fun _ h9 => h9) rfl dX10_copy_22 ?_
      refine lv_iload_n hx hb dX10_copy_25 rfl (lv_at hl 1 rfl) ?_
      refine va_iald hx hb hK hP 8 0 rfl rfl (within_in4 c_3) dX10_copy_26 ?_
      refine lv_if_eq (tgt := 39) hx hb dX10_copy_27 (by decide) (fun c_6 => ?_) (fun c_6 => ?_)
      · refine lv_aload_n hx hb dX10_copy_39 rfl (lv_at hl 0 rfl) ?_
        refine lv_ldcw (v := (-100002)) hx hb hown hw4 dX10_copy_40 ?_
        refine kM_i (As := [.int (-100002)]) (rest := []) (q0 := 0) ⟨hx, hb, hml, hown, hts⟩ (c_X10_finding l D cy a _ J (va_up I 13 (I 13)) (va_up (va_up R 10 (R 10)) 18 (R 18)) RJ (-100002) ) (cwV 1 hts gX10_copy_X10_finding rfl rfl rfl (by decide +kernel) ⟨Nat.le_of_ble_eq_true rfl, Nat.le_of_ble_eq_true rfl⟩) hK hN hP hD hS hA rfl rfl rfl hl.1 rfl (Nat.le_of_ble_eq_true rfl) dX10_copy_43 ⟨Nat.le_of_ble_eq_true rfl, Nat.le_of_ble_eq_true rfl⟩ (fun r_7 u H locs hw hP hD hS => ?_)
        obtain ⟨rfl, rfl⟩ := hw
        have hP : va_P D vwCl (MW cy a J (va_up I 13 ((I 13) + 1)) (va_up (va_up R 10 (R 10)) 18 (R 18)) RJ) H := hP
        have hD : va_D A (MW cy a J (va_up I 13 ((I 13) + 1)) (va_up (va_up R 10 (R 10)) 18 (R 18)) RJ) := hD
        exact wret_i hx hb hr hlocks (J, (va_up I 13 ((I 13) + 1)), (va_up (va_up R 10 (R 10)) 18 (R 18)), RJ) ⟨((I 13) + 1), (R 10), (R 18), ⟨(cp_no (V := Vs) (cw2 c_3 c_5 (Or.inl (by rw [← (ok_of hSh c_3 c_5).2.2.1]; exact c_6))) (by decide)).1, (by rw [(cp_no (cw2 c_3 c_5 (Or.inl (by rw [← (ok_of hSh c_3 c_5).2.2.1]; exact c_6))) (by decide)).2]; exact hSh)⟩, rfl⟩ hP hD hS dX10_copy_46
      · refine lv_aload_n hx hb dX10_copy_30 rfl (lv_at hl 0 rfl) ?_
        refine va_get (D := D) (ci := 9) (v := .ref (a 8)) (C := RX10) (T := TX10) (N := 30) hx hb hts hi10 hown hK hP 0 rfl rfl 14 (by decide) hw3 (fun _ h9 => h9) rfl dX10_copy_31 ?_
        refine lv_iload_n hx hb dX10_copy_34 rfl (lv_at hl 3 rfl) ?_
        refine va_iald hx hb hK hP 8 0 rfl rfl (within_in4 c_5) dX10_copy_35 ?_
        refine lv_if_ne (tgt := 47) hx hb dX10_copy_36 (by decide) (fun c_8 => ?_) (fun c_8 => ?_)
        · refine lv_aload_n hx hb dX10_copy_47 rfl (lv_at hl 0 rfl) ?_
          refine va_get (D := D) (ci := 9) (v := .ref (a 8)) (C := RX10) (T := TX10) (N := 30) hx hb hts hi10 hown hK hP 0 rfl rfl 14 (by decide) hw3 (fun _ h9 => h9) rfl dX10_copy_48 ?_
          refine lv_iload_n hx hb dX10_copy_51 rfl (lv_at hl 1 rfl) ?_
          refine va_iald hx hb hK hP 8 0 rfl rfl (within_in4 c_3) dX10_copy_52 ?_
          refine lv_aload_n hx hb dX10_copy_53 rfl (lv_at hl 0 rfl) ?_
          refine va_get (D := D) (ci := 9) (v := .ref (a 8)) (C := RX10) (T := TX10) (N := 30) hx hb hts hi10 hown hK hP 0 rfl rfl 14 (by decide) hw3 (fun _ h9 => h9) rfl dX10_copy_54 ?_
          refine lv_iload_n hx hb dX10_copy_57 rfl (lv_at hl 3 rfl) ?_
          refine va_iald hx hb hK hP 8 0 rfl rfl (within_in4 c_5) dX10_copy_58 ?_
          refine lv_icmp_eq (tgt := 69) hx hb dX10_copy_59 (by decide) (fun c_9 => ?_) (fun c_9 => ?_)
          · refine lv_iload_n hx hb dX10_copy_69 rfl (lv_at hl 2 rfl) ?_
            refine lv_if_lt (tgt := 118) hx hb dX10_copy_70 (by decide) (fun c_10 => ?_) (fun c_10 => ?_)
            · refine lv_aload_n hx hb dX10_copy_118 rfl (lv_at hl 0 rfl) ?_
              refine lv_ldc (v := (-100001)) hx hb hown hw2 dX10_copy_119 ?_
              refine kM_i (As := [.int (-100001)]) (rest := []) (q0 := 0) ⟨hx, hb, hml, hown, hts⟩ (c_X10_finding l D cy a _ J (va_up I 13 (I 13)) (va_up (va_up R 10 (R 10)) 18 (R 18)) RJ (-100001) ) (cwV 1 hts gX10_copy_X10_finding rfl rfl rfl (by decide +kernel) ⟨Nat.le_of_ble_eq_true rfl, Nat.le_of_ble_eq_true rfl⟩) hK hN hP hD hS hA rfl rfl rfl hl.1 rfl (Nat.le_of_ble_eq_true rfl) dX10_copy_121 ⟨Nat.le_of_ble_eq_true rfl, Nat.le_of_ble_eq_true rfl⟩ (fun r_11 u H locs hw hP hD hS => ?_)
              obtain ⟨rfl, rfl⟩ := hw
              have hP : va_P D vwCl (MW cy a J (va_up I 13 ((I 13) + 1)) (va_up (va_up R 10 (R 10)) 18 (R 18)) RJ) H := hP
              have hD : va_D A (MW cy a J (va_up I 13 ((I 13) + 1)) (va_up (va_up R 10 (R 10)) 18 (R 18)) RJ) := hD
              exact wret_i hx hb hr hlocks (J, (va_up I 13 ((I 13) + 1)), (va_up (va_up R 10 (R 10)) 18 (R 18)), RJ) ⟨((I 13) + 1), (R 10), (R 18), ⟨(cp_no (V := Vs) (cw4 c_3 c_5 (by rw [← (ok_of hSh c_3 c_5).2.2.1]; exact c_6) (by rw [← (ok_of hSh c_3 c_5).2.2.2]; exact c_8) (by rw [← (ok_of hSh c_3 c_5).2.2.1, ← (ok_of hSh c_3 c_5).2.2.2]; exact c_9) (ckM_f (Or.inl c_10))) (by decide)).1, (by rw [(cp_no (cw4 c_3 c_5 (by rw [← (ok_of hSh c_3 c_5).2.2.1]; exact c_6) (by rw [← (ok_of hSh c_3 c_5).2.2.2]; exact c_8) (by rw [← (ok_of hSh c_3 c_5).2.2.1, ← (ok_of hSh c_3 c_5).2.2.2]; exact c_9) (ckM_f (Or.inl c_10))) (by decide)).2]; exact hSh)⟩, rfl⟩ hP hD hS dX10_copy_124
            · refine lv_iload hx hb dX10_copy_73 (lv_at hl 4 rfl) ?_
              refine lv_if_lt (tgt := 118) hx hb dX10_copy_75 (by decide) (fun c_12 => ?_) (fun c_12 => ?_)
              · refine lv_aload_n hx hb dX10_copy_118 rfl (lv_at hl 0 rfl) ?_
                refine lv_ldc (v := (-100001)) hx hb hown hw2 dX10_copy_119 ?_
                refine kM_i (As := [.int (-100001)]) (rest := []) (q0 := 0) ⟨hx, hb, hml, hown, hts⟩ (c_X10_finding l D cy a _ J (va_up I 13 (I 13)) (va_up (va_up R 10 (R 10)) 18 (R 18)) RJ (-100001) ) (cwV 1 hts gX10_copy_X10_finding rfl rfl rfl (by decide +kernel) ⟨Nat.le_of_ble_eq_true rfl, Nat.le_of_ble_eq_true rfl⟩) hK hN hP hD hS hA rfl rfl rfl hl.1 rfl (Nat.le_of_ble_eq_true rfl) dX10_copy_121 ⟨Nat.le_of_ble_eq_true rfl, Nat.le_of_ble_eq_true rfl⟩ (fun r_13 u H locs hw hP hD hS => ?_)
                obtain ⟨rfl, rfl⟩ := hw
                have hP : va_P D vwCl (MW cy a J (va_up I 13 ((I 13) + 1)) (va_up (va_up R 10 (R 10)) 18 (R 18)) RJ) H := hP
                have hD : va_D A (MW cy a J (va_up I 13 ((I 13) + 1)) (va_up (va_up R 10 (R 10)) 18 (R 18)) RJ) := hD
                exact wret_i hx hb hr hlocks (J, (va_up I 13 ((I 13) + 1)), (va_up (va_up R 10 (R 10)) 18 (R 18)), RJ) ⟨((I 13) + 1), (R 10), (R 18), ⟨(cp_no (V := Vs) (cw4 c_3 c_5 (by rw [← (ok_of hSh c_3 c_5).2.2.1]; exact c_6) (by rw [← (ok_of hSh c_3 c_5).2.2.2]; exact c_8) (by rw [← (ok_of hSh c_3 c_5).2.2.1, ← (ok_of hSh c_3 c_5).2.2.2]; exact c_9) (ckM_f (Or.inr (Or.inl c_12)))) (by decide)).1, (by rw [(cp_no (cw4 c_3 c_5 (by rw [← (ok_of hSh c_3 c_5).2.2.1]; exact c_6) (by rw [← (ok_of hSh c_3 c_5).2.2.2]; exact c_8) (by rw [← (ok_of hSh c_3 c_5).2.2.1, ← (ok_of hSh c_3 c_5).2.2.2]; exact c_9) (ckM_f (Or.inr (Or.inl c_12)))) (by decide)).2]; exact hSh)⟩, rfl⟩ hP hD hS dX10_copy_124
              · refine lv_iload hx hb dX10_copy_78 (lv_at hl 5 rfl) ?_
                refine lv_if_lt (tgt := 118) hx hb dX10_copy_80 (by decide) (fun c_14 => ?_) (fun c_14 => ?_)
                · refine lv_aload_n hx hb dX10_copy_118 rfl (lv_at hl 0 rfl) ?_
                  refine lv_ldc (v := (-100001)) hx hb hown hw2 dX10_copy_119 ?_
                  refine kM_i (As := [.int (-100001)]) (rest := []) (q0 := 0) ⟨hx, hb, hml, hown, hts⟩ (c_X10_finding l D cy a _ J (va_up I 13 (I 13)) (va_up (va_up R 10 (R 10)) 18 (R 18)) RJ (-100001) ) (cwV 1 hts gX10_copy_X10_finding rfl rfl rfl (by decide +kernel) ⟨Nat.le_of_ble_eq_true rfl, Nat.le_of_ble_eq_true rfl⟩) hK hN hP hD hS hA rfl rfl rfl hl.1 rfl (Nat.le_of_ble_eq_true rfl) dX10_copy_121 ⟨Nat.le_of_ble_eq_true rfl, Nat.le_of_ble_eq_true rfl⟩ (fun r_15 u H locs hw hP hD hS => ?_)
                  obtain ⟨rfl, rfl⟩ := hw
                  have hP : va_P D vwCl (MW cy a J (va_up I 13 ((I 13) + 1)) (va_up (va_up R 10 (R 10)) 18 (R 18)) RJ) H := hP
                  have hD : va_D A (MW cy a J (va_up I 13 ((I 13) + 1)) (va_up (va_up R 10 (R 10)) 18 (R 18)) RJ) := hD
                  exact wret_i hx hb hr hlocks (J, (va_up I 13 ((I 13) + 1)), (va_up (va_up R 10 (R 10)) 18 (R 18)), RJ) ⟨((I 13) + 1), (R 10), (R 18), ⟨(cp_no (V := Vs) (cw4 c_3 c_5 (by rw [← (ok_of hSh c_3 c_5).2.2.1]; exact c_6) (by rw [← (ok_of hSh c_3 c_5).2.2.2]; exact c_8) (by rw [← (ok_of hSh c_3 c_5).2.2.1, ← (ok_of hSh c_3 c_5).2.2.2]; exact c_9) (ckM_f (Or.inr (Or.inr (Or.inl c_14))))) (by decide)).1, (by rw [(cp_no (cw4 c_3 c_5 (by rw [← (ok_of hSh c_3 c_5).2.2.1]; exact c_6) (by rw [← (ok_of hSh c_3 c_5).2.2.2]; exact c_8) (by rw [← (ok_of hSh c_3 c_5).2.2.1, ← (ok_of hSh c_3 c_5).2.2.2]; exact c_9) (ckM_f (Or.inr (Or.inr (Or.inl c_14))))) (by decide)).2]; exact hSh)⟩, rfl⟩ hP hD hS dX10_copy_124
                · refine lv_iload_n hx hb dX10_copy_83 rfl (lv_at hl 2 rfl) ?_
                  refine lv_i2l (v := (x1 : Int32).toInt64) hx hb dX10_copy_84 rfl ?_
                  refine lv_iload hx hb dX10_copy_85 (lv_at hl 5 rfl) ?_
                  refine lv_i2l (v := (x4 : Int32).toInt64) hx hb dX10_copy_87 rfl ?_
                  refine lv_ladd hx hb dX10_copy_88 ?_
                  refine lv_aload_n hx hb dX10_copy_89 rfl (lv_at hl 0 rfl) ?_
                  refine va_get (D := D) (ci := 9) (v := .ref (a 9)) (C := RX10) (T := TX10) (N := 30) hx hb hts hi10 hown hK hP 0 rfl rfl 15 (by decide) hw5 (fun _ h9 => h9) rfl dX10_copy_90 ?_
                  refine lv_iload_n hx hb dX10_copy_93 rfl (lv_at hl 1 rfl) ?_
                  refine va_iald hx hb hK hP 9 0 rfl rfl (within_in4 c_3) dX10_copy_94 ?_
                  refine lv_i2l (v := ((R 9) x0.toNatClampNeg : Int32).toInt64) hx hb dX10_copy_95 rfl ?_
                  refine W.lcmp hx hb dX10_copy_96 ?_
                  refine lv_if_gt (tgt := 118) hx hb dX10_copy_97 (by decide) (fun c_16 => ?_) (fun c_16 => ?_)
                  · refine lv_aload_n hx hb dX10_copy_118 rfl (lv_at hl 0 rfl) ?_
                    refine lv_ldc (v := (-100001)) hx hb hown hw2 dX10_copy_119 ?_
                    refine kM_i (As := [.int (-100001)]) (rest := []) (q0 := 0) ⟨hx, hb, hml, hown, hts⟩ (c_X10_finding l D cy a _ J (va_up I 13 (I 13)) (va_up (va_up R 10 (R 10)) 18 (R 18)) RJ (-100001) ) (cwV 1 hts gX10_copy_X10_finding rfl rfl rfl (by decide +kernel) ⟨Nat.le_of_ble_eq_true rfl, Nat.le_of_ble_eq_true rfl⟩) hK hN hP hD hS hA rfl rfl rfl hl.1 rfl (Nat.le_of_ble_eq_true rfl) dX10_copy_121 ⟨Nat.le_of_ble_eq_true rfl, Nat.le_of_ble_eq_true rfl⟩ (fun r_17 u H locs hw hP hD hS => ?_)
                    obtain ⟨rfl, rfl⟩ := hw
                    have hP : va_P D vwCl (MW cy a J (va_up I 13 ((I 13) + 1)) (va_up (va_up R 10 (R 10)) 18 (R 18)) RJ) H := hP
                    have hD : va_D A (MW cy a J (va_up I 13 ((I 13) + 1)) (va_up (va_up R 10 (R 10)) 18 (R 18)) RJ) := hD
                    exact wret_i hx hb hr hlocks (J, (va_up I 13 ((I 13) + 1)), (va_up (va_up R 10 (R 10)) 18 (R 18)), RJ) ⟨((I 13) + 1), (R 10), (R 18), ⟨(cp_no (V := Vs) (cw4 c_3 c_5 (by rw [← (ok_of hSh c_3 c_5).2.2.1]; exact c_6) (by rw [← (ok_of hSh c_3 c_5).2.2.2]; exact c_8) (by rw [← (ok_of hSh c_3 c_5).2.2.1, ← (ok_of hSh c_3 c_5).2.2.2]; exact c_9) (ckM_f (Or.inr (Or.inr (Or.inr (Or.inl (by rw [← (ok_of hSh c_3 c_5).1]; exact c_16))))))) (by decide)).1, (by rw [(cp_no (cw4 c_3 c_5 (by rw [← (ok_of hSh c_3 c_5).2.2.1]; exact c_6) (by rw [← (ok_of hSh c_3 c_5).2.2.2]; exact c_8) (by rw [← (ok_of hSh c_3 c_5).2.2.1, ← (ok_of hSh c_3 c_5).2.2.2]; exact c_9) (ckM_f (Or.inr (Or.inr (Or.inr (Or.inl (by rw [← (ok_of hSh c_3 c_5).1]; exact c_16))))))) (by decide)).2]; exact hSh)⟩, rfl⟩ hP hD hS dX10_copy_124
                  · refine lv_iload hx hb dX10_copy_100 (lv_at hl 4 rfl) ?_
                    refine lv_i2l (v := (x3 : Int32).toInt64) hx hb dX10_copy_102 rfl ?_
                    refine lv_iload hx hb dX10_copy_103 (lv_at hl 5 rfl) ?_
                    refine lv_i2l (v := (x4 : Int32).toInt64) hx hb dX10_copy_105 rfl ?_
                    refine lv_ladd hx hb dX10_copy_106 ?_
                    refine lv_aload_n hx hb dX10_copy_107 rfl (lv_at hl 0 rfl) ?_
                    refine va_get (D := D) (ci := 9) (v := .ref (a 9)) (C := RX10) (T := TX10) (N := 30) hx hb hts hi10 hown hK hP 0 rfl rfl 15 (by decide) hw5 (fun _ h9 => h9) rfl dX10_copy_108 ?_
                    refine lv_iload_n hx hb dX10_copy_111 rfl (lv_at hl 3 rfl) ?_
                    refine va_iald hx hb hK hP 9 0 rfl rfl (within_in4 c_5) dX10_copy_112 ?_
                    refine lv_i2l (v := ((R 9) x2.toNatClampNeg : Int32).toInt64) hx hb dX10_copy_113 rfl ?_
                    refine W.lcmp hx hb dX10_copy_114 ?_
                    refine lv_if_le (tgt := 125) hx hb dX10_copy_115 (by decide) (fun c_18 => ?_) (fun c_18 => ?_)
                    · refine lv_iconst (v := 0) hx hb dX10_copy_125 (by decide) ?_
                      refine lv_istore (lv' := [(6, .int 0), (0, .ref (a 0)), (1, .int x0), (2, .int x1), (3, .int x2), (4, .int x3), (5, .int x4)]) hx hb dX10_copy_126 hl (by decide) rfl (fun ls hl => ?_)
                      exact lp128 _ 0 (I 13) (R 10) (R 18) (Nat.zero_le _) (cp_ok (within_in4 c_3) (within_in4 c_5) (hM.2.2.2.2.2 _ (in_lt (within_in4 c_3))) (hM.2.2.2.2.2 _ (in_lt (within_in4 c_5))) c_10 c_12 c_14 c_16 c_18) (cw5 c_3 c_5 (by rw [← (ok_of hSh c_3 c_5).2.2.1]; exact c_6) (by rw [← (ok_of hSh c_3 c_5).2.2.2]; exact c_8) (by rw [← (ok_of hSh c_3 c_5).2.2.1, ← (ok_of hSh c_3 c_5).2.2.2]; exact c_9) (ckM_t c_10 c_12 c_14 (by rw [← (ok_of hSh c_3 c_5).1]; exact c_16) (by rw [← (ok_of hSh c_3 c_5).2.1]; exact c_18))) rfl (fun j h => absurd h (Nat.not_lt_zero _)) (Nat.lt_succ_self _) _ _ hP hD hS ls (lv_sub hl [1, 2, 3, 4, 5, 6, 0] rfl)
                    · refine lv_aload_n hx hb dX10_copy_118 rfl (lv_at hl 0 rfl) ?_
                      refine lv_ldc (v := (-100001)) hx hb hown hw2 dX10_copy_119 ?_
                      refine kM_i (As := [.int (-100001)]) (rest := []) (q0 := 0) ⟨hx, hb, hml, hown, hts⟩ (c_X10_finding l D cy a _ J (va_up I 13 (I 13)) (va_up (va_up R 10 (R 10)) 18 (R 18)) RJ (-100001) ) (cwV 1 hts gX10_copy_X10_finding rfl rfl rfl (by decide +kernel) ⟨Nat.le_of_ble_eq_true rfl, Nat.le_of_ble_eq_true rfl⟩) hK hN hP hD hS hA rfl rfl rfl hl.1 rfl (Nat.le_of_ble_eq_true rfl) dX10_copy_121 ⟨Nat.le_of_ble_eq_true rfl, Nat.le_of_ble_eq_true rfl⟩ (fun r_19 u H locs hw hP hD hS => ?_)
                      obtain ⟨rfl, rfl⟩ := hw
                      have hP : va_P D vwCl (MW cy a J (va_up I 13 ((I 13) + 1)) (va_up (va_up R 10 (R 10)) 18 (R 18)) RJ) H := hP
                      have hD : va_D A (MW cy a J (va_up I 13 ((I 13) + 1)) (va_up (va_up R 10 (R 10)) 18 (R 18)) RJ) := hD
                      exact wret_i hx hb hr hlocks (J, (va_up I 13 ((I 13) + 1)), (va_up (va_up R 10 (R 10)) 18 (R 18)), RJ) ⟨((I 13) + 1), (R 10), (R 18), ⟨(cp_no (V := Vs) (cw4 c_3 c_5 (by rw [← (ok_of hSh c_3 c_5).2.2.1]; exact c_6) (by rw [← (ok_of hSh c_3 c_5).2.2.2]; exact c_8) (by rw [← (ok_of hSh c_3 c_5).2.2.1, ← (ok_of hSh c_3 c_5).2.2.2]; exact c_9) (ckM_f (Or.inr (Or.inr (Or.inr (Or.inr (by rw [← (ok_of hSh c_3 c_5).2.1]; exact c_18))))))) (by decide)).1, (by rw [(cp_no (cw4 c_3 c_5 (by rw [← (ok_of hSh c_3 c_5).2.2.1]; exact c_6) (by rw [← (ok_of hSh c_3 c_5).2.2.2]; exact c_8) (by rw [← (ok_of hSh c_3 c_5).2.2.1, ← (ok_of hSh c_3 c_5).2.2.2]; exact c_9) (ckM_f (Or.inr (Or.inr (Or.inr (Or.inr (by rw [← (ok_of hSh c_3 c_5).2.1]; exact c_18))))))) (by decide)).2]; exact hSh)⟩, rfl⟩ hP hD hS dX10_copy_124
          · refine lv_aload_n hx hb dX10_copy_62 rfl (lv_at hl 0 rfl) ?_
            refine lv_ldc (v := (-100004)) hx hb hown hw6 dX10_copy_63 ?_
            refine kM_i (As := [.int (-100004)]) (rest := []) (q0 := 0) ⟨hx, hb, hml, hown, hts⟩ (c_X10_finding l D cy a _ J (va_up I 13 (I 13)) (va_up (va_up R 10 (R 10)) 18 (R 18)) RJ (-100004) ) (cwV 1 hts gX10_copy_X10_finding rfl rfl rfl (by decide +kernel) ⟨Nat.le_of_ble_eq_true rfl, Nat.le_of_ble_eq_true rfl⟩) hK hN hP hD hS hA rfl rfl rfl hl.1 rfl (Nat.le_of_ble_eq_true rfl) dX10_copy_65 ⟨Nat.le_of_ble_eq_true rfl, Nat.le_of_ble_eq_true rfl⟩ (fun r_20 u H locs hw hP hD hS => ?_)
            obtain ⟨rfl, rfl⟩ := hw
            have hP : va_P D vwCl (MW cy a J (va_up I 13 ((I 13) + 1)) (va_up (va_up R 10 (R 10)) 18 (R 18)) RJ) H := hP
            have hD : va_D A (MW cy a J (va_up I 13 ((I 13) + 1)) (va_up (va_up R 10 (R 10)) 18 (R 18)) RJ) := hD
            exact wret_i hx hb hr hlocks (J, (va_up I 13 ((I 13) + 1)), (va_up (va_up R 10 (R 10)) 18 (R 18)), RJ) ⟨((I 13) + 1), (R 10), (R 18), ⟨(cp_no (V := Vs) (cw3 c_3 c_5 (by rw [← (ok_of hSh c_3 c_5).2.2.1]; exact c_6) (by rw [← (ok_of hSh c_3 c_5).2.2.2]; exact c_8) (by rw [← (ok_of hSh c_3 c_5).2.2.1, ← (ok_of hSh c_3 c_5).2.2.2]; exact c_9)) (by decide)).1, (by rw [(cp_no (cw3 c_3 c_5 (by rw [← (ok_of hSh c_3 c_5).2.2.1]; exact c_6) (by rw [← (ok_of hSh c_3 c_5).2.2.2]; exact c_8) (by rw [← (ok_of hSh c_3 c_5).2.2.1, ← (ok_of hSh c_3 c_5).2.2.2]; exact c_9)) (by decide)).2]; exact hSh)⟩, rfl⟩ hP hD hS dX10_copy_68
        · refine lv_aload_n hx hb dX10_copy_39 rfl (lv_at hl 0 rfl) ?_
          refine lv_ldcw (v := (-100002)) hx hb hown hw4 dX10_copy_40 ?_
          refine kM_i (As := [.int (-100002)]) (rest := []) (q0 := 0) ⟨hx, hb, hml, hown, hts⟩ (c_X10_finding l D cy a _ J (va_up I 13 (I 13)) (va_up (va_up R 10 (R 10)) 18 (R 18)) RJ (-100002) ) (cwV 1 hts gX10_copy_X10_finding rfl rfl rfl (by decide +kernel) ⟨Nat.le_of_ble_eq_true rfl, Nat.le_of_ble_eq_true rfl⟩) hK hN hP hD hS hA rfl rfl rfl hl.1 rfl (Nat.le_of_ble_eq_true rfl) dX10_copy_43 ⟨Nat.le_of_ble_eq_true rfl, Nat.le_of_ble_eq_true rfl⟩ (fun r_21 u H locs hw hP hD hS => ?_)
          obtain ⟨rfl, rfl⟩ := hw
          have hP : va_P D vwCl (MW cy a J (va_up I 13 ((I 13) + 1)) (va_up (va_up R 10 (R 10)) 18 (R 18)) RJ) H := hP
          have hD : va_D A (MW cy a J (va_up I 13 ((I 13) + 1)) (va_up (va_up R 10 (R 10)) 18 (R 18)) RJ) := hD
          exact wret_i hx hb hr hlocks (J, (va_up I 13 ((I 13) + 1)), (va_up (va_up R 10 (R 10)) 18 (R 18)), RJ) ⟨((I 13) + 1), (R 10), (R 18), ⟨(cp_no (V := Vs) (cw2 c_3 c_5 (Or.inr (by rw [← (ok_of hSh c_3 c_5).2.2.2]; exact c_8))) (by decide)).1, (by rw [(cp_no (cw2 c_3 c_5 (Or.inr (by rw [← (ok_of hSh c_3 c_5).2.2.2]; exact c_8))) (by decide)).2]; exact hSh)⟩, rfl⟩ hP hD hS dX10_copy_46
    · replace c_5 := bI_f c_5
      refine lv_aload_n hx hb dX10_copy_14 rfl (lv_at hl 0 rfl) ?_
      refine lv_ldc (v := (-100001)) hx hb hown hw2 dX10_copy_15 ?_
      refine kM_i (As := [.int (-100001)]) (rest := []) (q0 := 0) ⟨hx, hb, hml, hown, hts⟩ (c_X10_finding l D cy a _ J (va_up I 13 (I 13)) (va_up (va_up R 10 (R 10)) 18 (R 18)) RJ (-100001) ) (cwV 1 hts gX10_copy_X10_finding rfl rfl rfl (by decide +kernel) ⟨Nat.le_of_ble_eq_true rfl, Nat.le_of_ble_eq_true rfl⟩) hK hN hP hD hS hA rfl rfl rfl hl.1 rfl (Nat.le_of_ble_eq_true rfl) dX10_copy_17 ⟨Nat.le_of_ble_eq_true rfl, Nat.le_of_ble_eq_true rfl⟩ (fun r_22 u H locs hw hP hD hS => ?_)
      obtain ⟨rfl, rfl⟩ := hw
      have hP : va_P D vwCl (MW cy a J (va_up I 13 ((I 13) + 1)) (va_up (va_up R 10 (R 10)) 18 (R 18)) RJ) H := hP
      have hD : va_D A (MW cy a J (va_up I 13 ((I 13) + 1)) (va_up (va_up R 10 (R 10)) 18 (R 18)) RJ) := hD
      exact wret_i hx hb hr hlocks (J, (va_up I 13 ((I 13) + 1)), (va_up (va_up R 10 (R 10)) 18 (R 18)), RJ) ⟨((I 13) + 1), (R 10), (R 18), ⟨(cp_no (V := Vs) (cw1 (by rw [c_5, Bool.and_false])) (by decide)).1, (by rw [(cp_no (cw1 (by rw [c_5, Bool.and_false])) (by decide)).2]; exact hSh)⟩, rfl⟩ hP hD hS dX10_copy_20
