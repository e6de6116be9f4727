theorem dX10_spreadFrom_70 : decode cX10_spreadFrom 70 = .ok (.iload 4, 2) := by decide +kernel
theorem dX10_spreadFrom_72 : decode cX10_spreadFrom 72 = .ok (.iconst 4, 1) := by decide +kernel
theorem dX10_spreadFrom_73 : decode cX10_spreadFrom 73 = .ok (.if_icmp .ge 108, 3) := by decide +kernel
theorem dX10_spreadFrom_181 : decode cX10_spreadFrom 181 = .ok (.iinc 3 1, 3) := by decide +kernel
theorem dX10_spreadFrom_184 : decode cX10_spreadFrom 184 = .ok (.goto (-123), 3) := by decide +kernel
theorem dX10_spreadFrom_76 : decode cX10_spreadFrom 76 = .ok (.aload_n 0, 1) := by decide +kernel
theorem dX10_spreadFrom_77 : decode cX10_spreadFrom 77 = .ok (.getfield 57, 3) := by decide +kernel
theorem dX10_spreadFrom_80 : decode cX10_spreadFrom 80 = .ok (.iload_n 3, 1) := by decide +kernel
theorem dX10_spreadFrom_81 : decode cX10_spreadFrom 81 = .ok (.baload, 1) := by decide +kernel
theorem dX10_spreadFrom_82 : decode cX10_spreadFrom 82 = .ok (.ifCond .eq 99, 3) := by decide +kernel
theorem dX10_spreadFrom_85 : decode cX10_spreadFrom 85 = .ok (.aload_n 0, 1) := by decide +kernel
theorem dX10_spreadFrom_86 : decode cX10_spreadFrom 86 = .ok (.iload_n 3, 1) := by decide +kernel
set_option maxRecDepth 20000 in
theorem ggX10_spreadFrom_X10_isDarkField : GoodIn wsX10_spreadFrom wsX10_isDarkField := goodIn_r _ [9, 3, 10, 11, 8, 12, 13, 14, 15, 22, 23, 24, 25, 26, 27, 28, 29, 30, 31, 32, 33, 34, 35, 36, 37, 38, 39, 40, 41, 42, 43, 44, 45, 46, 47, 48, 49, 50, 51] rfl (by decide +kernel)
set_option maxRecDepth 20000 in
theorem gX10_spreadFrom_X10_isDarkField : GoodIn wsX10_spreadFrom (wsV RX10 286 RX10 yX10_isDarkField wsX10_isDarkField) := goodIn_app (goodIn_r _ [5, 6, 7, 8] rfl (by decide +kernel)) ggX10_spreadFrom_X10_isDarkField
theorem dX10_spreadFrom_87 : decode cX10_spreadFrom 87 = .ok (.invokevirtual 286, 3) := by decide +kernel
theorem dX10_spreadFrom_90 : decode cX10_spreadFrom 90 = .ok (.ifCond .eq 91, 3) := by decide +kernel
theorem dX10_spreadFrom_93 : decode cX10_spreadFrom 93 = .ok (.iload_n 3, 1) := by decide +kernel
theorem dX10_spreadFrom_94 : decode cX10_spreadFrom 94 = .ok (.iload 4, 2) := by decide +kernel
set_option maxRecDepth 20000 in
theorem ggX10_spreadFrom_X10_beside : GoodIn wsX10_spreadFrom wsX10_beside := goodIn_r _ [18, 19, 20, 8, 21] rfl (by decide +kernel)
set_option maxRecDepth 20000 in
theorem gX10_spreadFrom_X10_beside : GoodIn wsX10_spreadFrom (va_wsS RX10 289 yX10_beside wsX10_beside) := goodIn_app (goodIn_r _ [16, 17, 8] rfl (by decide +kernel)) ggX10_spreadFrom_X10_beside
theorem dX10_spreadFrom_96 : decode cX10_spreadFrom 96 = .ok (.invokestatic 289, 3) := by decide +kernel
theorem dX10_spreadFrom_99 : decode cX10_spreadFrom 99 = .ok (.istore 5, 2) := by decide +kernel
theorem dX10_spreadFrom_101 : decode cX10_spreadFrom 101 = .ok (.iload 5, 2) := by decide +kernel
theorem dX10_spreadFrom_103 : decode cX10_spreadFrom 103 = .ok (.ifCond .lt 72, 3) := by decide +kernel
theorem dX10_spreadFrom_175 : decode cX10_spreadFrom 175 = .ok (.iinc 4 1, 3) := by decide +kernel
theorem dX10_spreadFrom_178 : decode cX10_spreadFrom 178 = .ok (.goto (-108), 3) := by decide +kernel
theorem dX10_spreadFrom_106 : decode cX10_spreadFrom 106 = .ok (.aload_n 0, 1) := by decide +kernel
theorem dX10_spreadFrom_107 : decode cX10_spreadFrom 107 = .ok (.getfield 81, 3) := by decide +kernel
theorem dX10_spreadFrom_110 : decode cX10_spreadFrom 110 = .ok (.iload 5, 2) := by decide +kernel
set_option maxRecDepth 20000 in
theorem ggX10_spreadFrom_X10_hasBit : GoodIn wsX10_spreadFrom wsX10_hasBit := goodIn_r _ [12] rfl (by decide +kernel)
set_option maxRecDepth 20000 in
theorem gX10_spreadFrom_X10_hasBit : GoodIn wsX10_spreadFrom (va_wsS RX10 74 yX10_hasBit wsX10_hasBit) := goodIn_app (goodIn_r _ [10, 11, 8] rfl (by decide +kernel)) ggX10_spreadFrom_X10_hasBit
theorem dX10_spreadFrom_112 : decode cX10_spreadFrom 112 = .ok (.invokestatic 74, 3) := by decide +kernel
theorem dX10_spreadFrom_115 : decode cX10_spreadFrom 115 = .ok (.ifCond .eq 60, 3) := by decide +kernel
theorem dX10_spreadFrom_118 : decode cX10_spreadFrom 118 = .ok (.aload_n 0, 1) := by decide +kernel
theorem dX10_spreadFrom_119 : decode cX10_spreadFrom 119 = .ok (.getfield 57, 3) := by decide +kernel
theorem dX10_spreadFrom_122 : decode cX10_spreadFrom 122 = .ok (.iload 5, 2) := by decide +kernel
theorem dX10_spreadFrom_124 : decode cX10_spreadFrom 124 = .ok (.baload, 1) := by decide +kernel
theorem dX10_spreadFrom_125 : decode cX10_spreadFrom 125 = .ok (.ifCond .eq 6, 3) := by decide +kernel
theorem dX10_spreadFrom_131 : decode cX10_spreadFrom 131 = .ok (.aload_n 0, 1) := by decide +kernel
theorem dX10_spreadFrom_132 : decode cX10_spreadFrom 132 = .ok (.getfield 57, 3) := by decide +kernel
theorem dX10_spreadFrom_135 : decode cX10_spreadFrom 135 = .ok (.iload 5, 2) := by decide +kernel
theorem dX10_spreadFrom_137 : decode cX10_spreadFrom 137 = .ok (.iconst 1, 1) := by decide +kernel
theorem dX10_spreadFrom_138 : decode cX10_spreadFrom 138 = .ok (.bastore, 1) := by decide +kernel
theorem dX10_spreadFrom_139 : decode cX10_spreadFrom 139 = .ok (.aload_n 0, 1) := by decide +kernel
theorem dX10_spreadFrom_140 : decode cX10_spreadFrom 140 = .ok (.getfield 60, 3) := by decide +kernel
theorem dX10_spreadFrom_143 : decode cX10_spreadFrom 143 = .ok (.iload 5, 2) := by decide +kernel
theorem dX10_spreadFrom_145 : decode cX10_spreadFrom 145 = .ok (.iload_n 3, 1) := by decide +kernel
theorem dX10_spreadFrom_146 : decode cX10_spreadFrom 146 = .ok (.iastore, 1) := by decide +kernel
theorem dX10_spreadFrom_147 : decode cX10_spreadFrom 147 = .ok (.iconst 1, 1) := by decide +kernel
theorem dX10_spreadFrom_148 : decode cX10_spreadFrom 148 = .ok (.istore_n 2, 1) := by decide +kernel
theorem dX10_spreadFrom_149 : decode cX10_spreadFrom 149 = .ok (.aload_n 0, 1) := by decide +kernel
theorem dX10_spreadFrom_150 : decode cX10_spreadFrom 150 = .ok (.getfield 54, 3) := by decide +kernel
theorem dX10_spreadFrom_153 : decode cX10_spreadFrom 153 = .ok (.iload 5, 2) := by decide +kernel
theorem dX10_spreadFrom_155 : decode cX10_spreadFrom 155 = .ok (.iaload, 1) := by decide +kernel
theorem dX10_spreadFrom_156 : decode cX10_spreadFrom 156 = .ok (.ifCond .ge 6, 3) := by decide +kernel
theorem dX10_spreadFrom_162 : decode cX10_spreadFrom 162 = .ok (.aload_n 0, 1) := by decide +kernel
theorem dX10_spreadFrom_163 : decode cX10_spreadFrom 163 = .ok (.getfield 57, 3) := by decide +kernel
theorem dX10_spreadFrom_166 : decode cX10_spreadFrom 166 = .ok (.aload_n 0, 1) := by decide +kernel
theorem dX10_spreadFrom_167 : decode cX10_spreadFrom 167 = .ok (.getfield 54, 3) := by decide +kernel
theorem dX10_spreadFrom_170 : decode cX10_spreadFrom 170 = .ok (.iload 5, 2) := by decide +kernel
theorem dX10_spreadFrom_172 : decode cX10_spreadFrom 172 = .ok (.iaload, 1) := by decide +kernel
theorem dX10_spreadFrom_173 : decode cX10_spreadFrom 173 = .ok (.iconst 1, 1) := by decide +kernel
theorem dX10_spreadFrom_174 : decode cX10_spreadFrom 174 = .ok (.bastore, 1) := by decide +kernel
theorem dX10_spreadFrom_159 : decode cX10_spreadFrom 159 = .ok (.iload 5, 2) := by decide +kernel
theorem dX10_spreadFrom_161 : decode cX10_spreadFrom 161 = .ok (.ireturn, 1) := by decide +kernel
theorem dX10_spreadFrom_128 : decode cX10_spreadFrom 128 = .ok (.goto 47, 3) := by decide +kernel
theorem dX10_spreadFrom_61 : decode cX10_spreadFrom 61 = .ok (.iload_n 3, 1) := by decide +kernel
theorem dX10_spreadFrom_62 : decode cX10_spreadFrom 62 = .ok (.bipush 64, 2) := by decide +kernel
theorem dX10_spreadFrom_64 : decode cX10_spreadFrom 64 = .ok (.if_icmp .ge 123, 3) := by decide +kernel
theorem dX10_spreadFrom_187 : decode cX10_spreadFrom 187 = .ok (.goto (-134), 3) := by decide +kernel
theorem dX10_spreadFrom_67 : decode cX10_spreadFrom 67 = .ok (.iconst 0, 1) := by decide +kernel
theorem dX10_spreadFrom_68 : decode cX10_spreadFrom 68 = .ok (.istore 4, 2) := by decide +kernel
theorem dX10_spreadFrom_53 : decode cX10_spreadFrom 53 = .ok (.iload_n 2, 1) := by decide +kernel
theorem dX10_spreadFrom_54 : decode cX10_spreadFrom 54 = .ok (.ifCond .eq 136, 3) := by decide +kernel
theorem dX10_spreadFrom_190 : decode cX10_spreadFrom 190 = .ok (.iconst (-1), 1) := by decide +kernel
theorem dX10_spreadFrom_191 : decode cX10_spreadFrom 191 = .ok (.ireturn, 1) := by decide +kernel
theorem dX10_spreadFrom_57 : decode cX10_spreadFrom 57 = .ok (.iconst 0, 1) := by decide +kernel
theorem dX10_spreadFrom_58 : decode cX10_spreadFrom 58 = .ok (.istore_n 2, 1) := by decide +kernel
theorem dX10_spreadFrom_59 : decode cX10_spreadFrom 59 = .ok (.iconst 0, 1) := by decide +kernel
theorem dX10_spreadFrom_60 : decode cX10_spreadFrom 60 = .ok (.istore_n 3, 1) := by decide +kernel
theorem dX10_spreadFrom_2 : decode cX10_spreadFrom 2 = .ok (.iload_n 2, 1) := by decide +kernel
theorem dX10_spreadFrom_3 : decode cX10_spreadFrom 3 = .ok (.bipush 64, 2) := by decide +kernel
theorem dX10_spreadFrom_5 : decode cX10_spreadFrom 5 = .ok (.if_icmp .ge 46, 3) := by decide +kernel
theorem dX10_spreadFrom_51 : decode cX10_spreadFrom 51 = .ok (.iconst 1, 1) := by decide +kernel
theorem dX10_spreadFrom_52 : decode cX10_spreadFrom 52 = .ok (.istore_n 2, 1) := by decide +kernel
theorem dX10_spreadFrom_8 : decode cX10_spreadFrom 8 = .ok (.aload_n 0, 1) := by decide +kernel
theorem dX10_spreadFrom_9 : decode cX10_spreadFrom 9 = .ok (.getfield 57, 3) := by decide +kernel
theorem dX10_spreadFrom_12 : decode cX10_spreadFrom 12 = .ok (.iload_n 2, 1) := by decide +kernel
theorem dX10_spreadFrom_13 : decode cX10_spreadFrom 13 = .ok (.iload_n 2, 1) := by decide +kernel
theorem dX10_spreadFrom_14 : decode cX10_spreadFrom 14 = .ok (.iload_n 1, 1) := by decide +kernel
theorem dX10_spreadFrom_15 : decode cX10_spreadFrom 15 = .ok (.if_icmp .eq 24, 3) := by decide +kernel
theorem dX10_spreadFrom_39 : decode cX10_spreadFrom 39 = .ok (.iconst 1, 1) := by decide +kernel
theorem dX10_spreadFrom_40 : decode cX10_spreadFrom 40 = .ok (.goto 4, 3) := by decide +kernel
theorem dX10_spreadFrom_44 : decode cX10_spreadFrom 44 = .ok (.bastore, 1) := by decide +kernel
theorem dX10_spreadFrom_45 : decode cX10_spreadFrom 45 = .ok (.iinc 2 1, 3) := by decide +kernel
theorem dX10_spreadFrom_48 : decode cX10_spreadFrom 48 = .ok (.goto (-46), 3) := by decide +kernel
theorem dX10_spreadFrom_18 : decode cX10_spreadFrom 18 = .ok (.iload_n 1, 1) := by decide +kernel
theorem dX10_spreadFrom_19 : decode cX10_spreadFrom 19 = .ok (.ifCond .ge 24, 3) := by decide +kernel
theorem dX10_spreadFrom_43 : decode cX10_spreadFrom 43 = .ok (.iconst 0, 1) := by decide +kernel
theorem dX10_spreadFrom_22 : decode cX10_spreadFrom 22 = .ok (.aload_n 0, 1) := by decide +kernel
theorem dX10_spreadFrom_23 : decode cX10_spreadFrom 23 = .ok (.iload_n 2, 1) := by decide +kernel
theorem dX10_spreadFrom_24 : decode cX10_spreadFrom 24 = .ok (.invokevirtual 286, 3) := by decide +kernel
theorem dX10_spreadFrom_27 : decode cX10_spreadFrom 27 = .ok (.ifCond .eq 16, 3) := by decide +kernel
theorem dX10_spreadFrom_30 : decode cX10_spreadFrom 30 = .ok (.aload_n 0, 1) := by decide +kernel
theorem dX10_spreadFrom_31 : decode cX10_spreadFrom 31 = .ok (.getfield 54, 3) := by decide +kernel
theorem dX10_spreadFrom_34 : decode cX10_spreadFrom 34 = .ok (.iload_n 2, 1) := by decide +kernel
theorem dX10_spreadFrom_35 : decode cX10_spreadFrom 35 = .ok (.iaload, 1) := by decide +kernel
theorem dX10_spreadFrom_36 : decode cX10_spreadFrom 36 = .ok (.ifCond .ge 7, 3) := by decide +kernel
theorem dX10_spreadFrom_0 : decode cX10_spreadFrom 0 = .ok (.iconst 0, 1) := by decide +kernel
theorem dX10_spreadFrom_1 : decode cX10_spreadFrom 1 = .ok (.istore_n 2, 1) := by decide +kernel
set_option maxRecDepth 20000 in
theorem ihX10_spreadFrom_10 : ∀ w ∈ u_ws RX10 TX10 30, w ∈ wsX10_spreadFrom := fun _ h => List.mem_cons_of_mem _ (List.mem_append_right _ h)
set_option maxHeartbeats 4000000 in
set_option maxRecDepth 100000 in
theorem t_X10_spreadFrom (l : Launch) (D : va_G) (cy : Nat → ClassId) (a : Nat → Nat) (sz : Nat) (J : Nat → Int64) (I : Nat → Int32) (R : Nat → Nat → Int32) (RJ : Nat → Nat → Int64) (x0 : Int32) (hRG : RG (R 15)) (hSY : SYx (R 15) 64) (hst : ∀ d, d < 64 → nI d = x0 → R 15 d = -1) : Met l yX10_spreadFrom wsX10_spreadFrom ({ frames := 2, cells := 0, slots := 0, locals := 45 }) (va_Pc [.ref (a 0), .int x0] (PW D cy sz (MW cy a J I R RJ))) (va_Qi (fun r (u : MS) => ∃ (w0 : Nat → Int32), ∃ (w1 : Nat → Int32), ((sfOk (J 0) x0 w1 (R 15) r)) ∧ u = (J, I, (va_up (va_up R 16 w0) 17 w1), RJ)) (BW D (va_A (MW cy a J I R RJ) sz) (MWu cy a)) (va_A (MW cy a J I R RJ) sz)) 0 0 (va_A (MW cy a J I R RJ) sz) := by
  refine Met.ofW (cc := cX10_spreadFrom) (maxL := 6) (ret := (some .int)) (by decide) rfl ?_
  intro p e s m args below meth c s₁ B hml hv
  obtain ⟨rfl, rfl, hP, hK, hN, hD0⟩ := hv
  have hx := B.exec
  have hb := B.bytes
  have hr := B.returns
  have hts := atoms_spec (ws := wsX10_spreadFrom) B.pre
  have hown : s.vm.findClass RX10 = some m.cls := findClass_of_methodNamed B.named
  have hlocks := B.notSynchronized
  have hw0 := hts (.fieldLink RX10 57 "ParquetLayerModel" "seen" "[Z") (by decide +kernel)
  have hw1 := hts (.fieldLink RX10 81 "ParquetLayerModel" "floor" "J") (by decide +kernel)
  have hw2 := hts (.fieldLink RX10 60 "ParquetLayerModel" "from" "[I") (by decide +kernel)
  have hw3 := hts (.fieldLink RX10 54 "ParquetLayerModel" "mate" "[I") (by decide +kernel)
  have hi10 := ihX10_spreadFrom_10
  have hD := hD0.self (sz := s.heap.size)
  generalize hAe : va_A (MW cy a J I R RJ) s.heap.size = A at hD ⊢
  have hA : ∀ q : Nat, s.heap.size ≤ q → A q := fun q h => by rw [← hAe]; exact Or.inr h
  have hS : va_S A s.heap s.heap [] := va_S.rf
  have hl := lv_entry ([.ref (a 0), .int x0]) (n := 6) (Nat.le_of_ble_eq_true rfl)
  rw [lg_entry_eq]
  generalize (lg_sl ([.ref (a 0), .int x0]) ++ List.replicate (6 - (lg_sl ([.ref (a 0), .int x0])).length) Slot.unset).toArray = ls at hl ⊢
  have hl : lv_has ls 6 [(0, .ref (a 0)), (1, .int x0)] := hl
  have hP : va_P D vwCl (MW cy a J I (va_up (va_up R 16 (R 16)) 17 (R 17)) RJ) s.heap := hP
  have hD : va_D A (MW cy a J I (va_up (va_up R 16 (R 16)) 17 (R 17)) RJ) := hD
  have lp53 : ∀ (n53 : Nat), ∀ (v2_53 : Bool) (m0_53 : Nat → Int32) (m1_53 : Nat → Int32), (SK (J 0) m0_53 m1_53 (R 15) x0) → (cntz m0_53 64 + bN v2_53) < n53 → ∀ (H : Heap) (locs : List Loc), va_P D vwCl (MW cy a J I (va_up (va_up R 16 m0_53) 17 m1_53) RJ) H → va_D A (MW cy a J I (va_up (va_up R 16 m0_53) 17 m1_53) RJ) → va_S A s.heap H locs → ∀ (ls : Array Slot), lv_has ls 6 [(0, .ref (a 0)), (1, .int x0), (2, .int (bI v2_53))] → W p l e (headSpec wsX10_spreadFrom ({ frames := 2, cells := 0, slots := 0, locals := 45 })).room s m ([.ref (a 0), .int x0] : List Value).toArray below meth c H locs 0 0 (MQ below (va_Qi (fun r (u : MS) => ∃ (w0 : Nat → Int32), ∃ (w1 : Nat → Int32), ((sfOk (J 0) x0 w1 (R 15) r)) ∧ u = (J, I, (va_up (va_up R 16 w0) 17 w1), RJ)) (BW D A (MWu cy a)) A) ([.ref (a 0), .int x0] : List Value).toArray s 0 0 A) (F0 m 53 ls []) := by
    intro n53
    induction n53 with
    | zero => intro v2_53 m0_53 m1_53 hsk hn; exact absurd hn (Nat.not_lt_zero _)
    | succ n53 ih53 =>
      intro v2_53 m0_53 m1_53 hsk hn53 H locs hP hD hS ls hl
      have lp61 : ∀ (n61 : Nat), ∀ (f9 : Nat) (v2_61 : Bool) (m0_61 : Nat → Int32) (m1_61 : Nat → Int32), (f9 ≤ 64) → (v2_53 = true) → (cntz m0_61 64 + bN v2_61 ≤ cntz m0_53 64) → (SK (J 0) m0_61 m1_61 (R 15) x0) → (64 - f9) < n61 → ∀ (H : Heap) (locs : List Loc), va_P D vwCl (MW cy a J I (va_up (va_up R 16 m0_61) 17 m1_61) RJ) H → va_D A (MW cy a J I (va_up (va_up R 16 m0_61) 17 m1_61) RJ) → va_S A s.heap H locs → ∀ (ls : Array Slot), lv_has ls 6 [(0, .ref (a 0)), (1, .int x0), (2, .int (bI v2_61)), (3, .int (nI f9))] → W p l e (headSpec wsX10_spreadFrom ({ frames := 2, cells := 0, slots := 0, locals := 45 })).room s m ([.ref (a 0), .int x0] : List Value).toArray below meth c H locs 0 0 (MQ below (va_Qi (fun r (u : MS) => ∃ (w0 : Nat → Int32), ∃ (w1 : Nat → Int32), ((sfOk (J 0) x0 w1 (R 15) r)) ∧ u = (J, I, (va_up (va_up R 16 w0) 17 w1), RJ)) (BW D A (MWu cy a)) A) ([.ref (a 0), .int x0] : List Value).toArray s 0 0 A) (F0 m 61 ls []) := by
        intro n61
        induction n61 with
        | zero => intro f9 v2_61 m0_61 m1_61 hf9 hm hc hsk hn; exact absurd hn (Nat.not_lt_zero _)
        | succ n61 ih61 =>
          intro f9 v2_61 m0_61 m1_61 hf9 hm hc hsk hn61 H locs hP hD hS ls hl
          have lp70 : ∀ (n70 : Nat), ∀ (wy : Nat) (v2_70 : Bool) (m0_70 : Nat → Int32) (m1_70 : Nat → Int32), (wy ≤ 4) → (f9 < 64) → (cntz m0_70 64 + bN v2_70 ≤ cntz m0_53 64) → (SK (J 0) m0_70 m1_70 (R 15) x0) → (4 - wy) < n70 → ∀ (H : Heap) (locs : List Loc), va_P D vwCl (MW cy a J I (va_up (va_up R 16 m0_70) 17 m1_70) RJ) H → va_D A (MW cy a J I (va_up (va_up R 16 m0_70) 17 m1_70) RJ) → va_S A s.heap H locs → ∀ (ls : Array Slot), lv_has ls 6 [(0, .ref (a 0)), (1, .int x0), (2, .int (bI v2_70)), (3, .int (nI f9)), (4, .int (nI wy))] → W p l e (headSpec wsX10_spreadFrom ({ frames := 2, cells := 0, slots := 0, locals := 45 })).room s m ([.ref (a 0), .int x0] : List Value).toArray below meth c H locs 0 0 (MQ below (va_Qi (fun r (u : MS) => ∃ (w0 : Nat → Int32), ∃ (w1 : Nat → Int32), ((sfOk (J 0) x0 w1 (R 15) r)) ∧ u = (J, I, (va_up (va_up R 16 w0) 17 w1), RJ)) (BW D A (MWu cy a)) A) ([.ref (a 0), .int x0] : List Value).toArray s 0 0 A) (F0 m 70 ls []) := by
            intro n70
            induction n70 with
            | zero => intro wy v2_70 m0_70 m1_70 hwy hlt_f9 hc hsk hn; exact absurd hn (Nat.not_lt_zero _)
            | succ n70 ih70 =>
              intro wy v2_70 m0_70 m1_70 hwy hlt_f9 hc hsk hn70 H locs hP hD hS ls hl
              refine lv_iload hx hb dX10_spreadFrom_70 (lv_at hl 4 rfl) ?_
              refine lv_iconst (v := 4) hx hb dX10_spreadFrom_72 (by decide) ?_
              refine lv_icmp_ge (tgt := 181) hx hb dX10_spreadFrom_73 (by decide) (fun c_1 => ?_) (fun c_1 => ?_)
              · refine lv_iinc (v := nI (f9 + 1)) (lv' := [(3, .int (nI (f9 + 1))), (0, .ref (a 0)), (1, .int x0), (2, .int (bI v2_70)), (4, .int (nI wy))]) hx hb dX10_spreadFrom_181 hl (k := 3) rfl (nI_1 _) (by decide) rfl (fun ls hl => ?_)
                refine lv_goto (tgt := 61) hx hb dX10_spreadFrom_184 (by decide) ?_
                exact ih61 (f9 + 1) v2_70 m0_70 m1_70 hlt_f9 hm hc hsk (lt_dec hlt_f9 hn61) _ _ hP hD hS ls (lv_sub hl [1, 2, 3, 0] rfl)
              · have hlt_wy := ctr_lt (N := 4) (by decide) hwy c_1
                refine lv_aload_n hx hb dX10_spreadFrom_76 rfl (lv_at hl 0 rfl) ?_
                refine va_get (D := D) (ci := 9) (v := .ref (a 16)) (C := RX10) (T := TX10) (N := 30) hx hb hts hi10 hown hK hP 0 rfl rfl 27 (by decide) hw0 (fun _ h9 => h9) rfl dX10_spreadFrom_77 ?_
                refine lv_iload_n hx hb dX10_spreadFrom_80 rfl (lv_at hl 3 rfl) ?_
                refine va_zald hx hb hK hP 16 2 rfl rfl (vp_in_nI hlt_f9 (by decide)) dX10_spreadFrom_81 ?_
                refine lv_if_eq (tgt := 181) hx hb dX10_spreadFrom_82 (by decide) (fun c_2 => ?_) (fun c_2 => ?_)
                · refine lv_iinc (v := nI (f9 + 1)) (lv' := [(3, .int (nI (f9 + 1))), (0, .ref (a 0)), (1, .int x0), (2, .int (bI v2_70)), (4, .int (nI wy))]) hx hb dX10_spreadFrom_181 hl (k := 3) rfl (nI_1 _) (by decide) rfl (fun ls hl => ?_)
                  refine lv_goto (tgt := 61) hx hb dX10_spreadFrom_184 (by decide) ?_
                  exact ih61 (f9 + 1) v2_70 m0_70 m1_70 hlt_f9 hm hc hsk (lt_dec hlt_f9 hn61) _ _ hP hD hS ls (lv_sub hl [1, 2, 3, 0] rfl)
                · refine lv_aload_n hx hb dX10_spreadFrom_85 rfl (lv_at hl 0 rfl) ?_
                  refine lv_iload_n hx hb dX10_spreadFrom_86 rfl (lv_at hl 3 rfl) ?_
                  refine kR_i (As := [.int (nI f9)]) (rest := []) (q0 := 0) ⟨hx, hb, hml, hown, hts⟩ (c_X10_isDarkField l D cy a _ J I (va_up (va_up R 16 m0_70) 17 m1_70) RJ (nI f9) ) (cwV 1 hts gX10_spreadFrom_X10_isDarkField rfl rfl rfl (by decide +kernel) ⟨Nat.le_of_ble_eq_true rfl, Nat.le_of_ble_eq_true rfl⟩) hK hN hP hD rfl rfl rfl hl.1 rfl (Nat.le_of_ble_eq_true rfl) dX10_spreadFrom_87 ⟨Nat.le_of_ble_eq_true rfl, Nat.le_of_ble_eq_true rfl⟩ ?_
                  refine lv_if_eq (tgt := 181) hx hb dX10_spreadFrom_90 (by decide) (fun c_3 => ?_) (fun c_3 => ?_)
                  · replace c_3 := bI_f c_3
                    refine lv_iinc (v := nI (f9 + 1)) (lv' := [(3, .int (nI (f9 + 1))), (0, .ref (a 0)), (1, .int x0), (2, .int (bI v2_70)), (4, .int (nI wy))]) hx hb dX10_spreadFrom_181 hl (k := 3) rfl (nI_1 _) (by decide) rfl (fun ls hl => ?_)
                    refine lv_goto (tgt := 61) hx hb dX10_spreadFrom_184 (by decide) ?_
                    exact ih61 (f9 + 1) v2_70 m0_70 m1_70 hlt_f9 hm hc hsk (lt_dec hlt_f9 hn61) _ _ hP hD hS ls (lv_sub hl [1, 2, 3, 0] rfl)
                  · replace c_3 := bI_t c_3
                    refine lv_iload_n hx hb dX10_spreadFrom_93 rfl (lv_at hl 3 rfl) ?_
                    refine lv_iload hx hb dX10_spreadFrom_94 (lv_at hl 4 rfl) ?_
                    refine kS_i (As := [.int (nI f9), .int (nI wy)]) (rest := []) ⟨hx, hb, hml, hown, hts⟩ (c_X10_beside l (nI f9) (nI wy)) (va_cwS 2 hts gX10_spreadFrom_X10_beside rfl rfl rfl (by decide +kernel) ⟨Nat.le_of_ble_eq_true rfl, Nat.le_of_ble_eq_true rfl⟩) rfl hl.1 rfl (Nat.le_of_ble_eq_true rfl) dX10_spreadFrom_96 ⟨Nat.le_of_ble_eq_true rfl, Nat.le_of_ble_eq_true rfl⟩ ?_
                    refine lv_istore (lv' := [(5, .int (m_bes (nI f9) (nI wy))), (0, .ref (a 0)), (1, .int x0), (2, .int (bI v2_70)), (3, .int (nI f9)), (4, .int (nI wy))]) hx hb dX10_spreadFrom_99 hl (by decide) rfl (fun ls hl => ?_)
                    refine lv_iload hx hb dX10_spreadFrom_101 (lv_at hl 0 rfl) ?_
                    refine lv_if_lt (tgt := 175) hx hb dX10_spreadFrom_103 (by decide) (fun c_4 => ?_) (fun c_4 => ?_)
                    · refine lv_iinc (v := nI (wy + 1)) (lv' := [(4, .int (nI (wy + 1))), (5, .int (m_bes (nI f9) (nI wy))), (0, .ref (a 0)), (1, .int x0), (2, .int (bI v2_70)), (3, .int (nI f9))]) hx hb dX10_spreadFrom_175 hl (k := 5) rfl (nI_1 _) (by decide) rfl (fun ls hl => ?_)
                      refine lv_goto (tgt := 70) hx hb dX10_spreadFrom_178 (by decide) ?_
                      exact ih70 (wy + 1) v2_70 m0_70 m1_70 hlt_wy hlt_f9 hc hsk (lt_dec hlt_wy hn70) _ _ hP hD hS ls (lv_sub hl [2, 3, 4, 5, 0] rfl)
                    · obtain ⟨g9, hg9, eg9, hcol⟩ := bes_g hlt_f9 hlt_wy c_4
                      rw [eg9] at hl
                      refine lv_aload_n hx hb dX10_spreadFrom_106 rfl (lv_at hl 1 rfl) ?_
                      refine va_get (D := D) (ci := 9) (v := .long (J 0)) (C := RX10) (T := TX10) (N := 30) hx hb hts hi10 hown hK hP 0 rfl rfl 0 (by decide) hw1 (fun _ h9 => h9) rfl dX10_spreadFrom_107 ?_
                      refine lv_iload hx hb dX10_spreadFrom_110 (lv_at hl 0 rfl) ?_
                      refine kS_i (As := [.long (J 0), .int (nI g9)]) (rest := []) ⟨hx, hb, hml, hown, hts⟩ (c_X10_hasBit l (J 0) (nI g9)) (va_cwS 2 hts gX10_spreadFrom_X10_hasBit rfl rfl rfl (by decide +kernel) ⟨Nat.le_of_ble_eq_true rfl, Nat.le_of_ble_eq_true rfl⟩) rfl hl.1 rfl (Nat.le_of_ble_eq_true rfl) dX10_spreadFrom_112 ⟨Nat.le_of_ble_eq_true rfl, Nat.le_of_ble_eq_true rfl⟩ ?_
                      refine lv_if_eq (tgt := 175) hx hb dX10_spreadFrom_115 (by decide) (fun c_5 => ?_) (fun c_5 => ?_)
                      · replace c_5 := bI_f c_5
                        refine lv_iinc (v := nI (wy + 1)) (lv' := [(4, .int (nI (wy + 1))), (5, .int (nI g9)), (0, .ref (a 0)), (1, .int x0), (2, .int (bI v2_70)), (3, .int (nI f9))]) hx hb dX10_spreadFrom_175 hl (k := 5) rfl (nI_1 _) (by decide) rfl (fun ls hl => ?_)
                        refine lv_goto (tgt := 70) hx hb dX10_spreadFrom_178 (by decide) ?_
                        exact ih70 (wy + 1) v2_70 m0_70 m1_70 hlt_wy hlt_f9 hc hsk (lt_dec hlt_wy hn70) _ _ hP hD hS ls (lv_sub hl [2, 3, 4, 5, 0] rfl)
                      · replace c_5 := bI_t c_5
                        refine lv_aload_n hx hb dX10_spreadFrom_118 rfl (lv_at hl 1 rfl) ?_
                        refine va_get (D := D) (ci := 9) (v := .ref (a 16)) (C := RX10) (T := TX10) (N := 30) hx hb hts hi10 hown hK hP 0 rfl rfl 27 (by decide) hw0 (fun _ h9 => h9) rfl dX10_spreadFrom_119 ?_
                        refine lv_iload hx hb dX10_spreadFrom_122 (lv_at hl 0 rfl) ?_
                        refine va_zald hx hb hK hP 16 2 rfl rfl (vp_in_nI hg9 (by decide)) dX10_spreadFrom_124 ?_
                        refine lv_if_eq (tgt := 131) hx hb dX10_spreadFrom_125 (by decide) (fun c_6 => ?_) (fun c_6 => ?_)
                        · refine lv_aload_n hx hb dX10_spreadFrom_131 rfl (lv_at hl 1 rfl) ?_
                          refine va_get (D := D) (ci := 9) (v := .ref (a 16)) (C := RX10) (T := TX10) (N := 30) hx hb hts hi10 hown hK hP 0 rfl rfl 27 (by decide) hw0 (fun _ h9 => h9) rfl dX10_spreadFrom_132 ?_
                          refine lv_iload hx hb dX10_spreadFrom_135 (lv_at hl 0 rfl) ?_
                          refine lv_iconst (v := 1) hx hb dX10_spreadFrom_137 (by decide) ?_
                          refine va_zast hx hb hK hP hD hS 16 2 rfl rfl (vp_in_nI hg9 (by decide)) dX10_spreadFrom_138 (fun H locs hP hD hS => ?_)
                          have hP : va_P D vwCl (MW cy a J I (va_up (va_up R 16 (upd m0_70 (nI g9).toNatClampNeg (vp_nar .boolean 1))) 17 m1_70) RJ) H := hP
                          have hD : va_D A (MW cy a J I (va_up (va_up R 16 (upd m0_70 (nI g9).toNatClampNeg (vp_nar .boolean 1))) 17 m1_70) RJ) := hD
                          obtain ⟨U9, hU9⟩ : ∃ z, z = (upd m0_70 (nI g9).toNatClampNeg (vp_nar .boolean 1)) := ⟨_, rfl⟩
                          rw [← hU9] at hP hD
                          have hP : va_P D vwCl (MW cy a J I (va_up (va_up R 16 U9) 17 m1_70) RJ) H := hP
                          have hD : va_D A (MW cy a J I (va_up (va_up R 16 U9) 17 m1_70) RJ) := hD
                          refine lv_aload_n hx hb dX10_spreadFrom_139 rfl (lv_at hl 1 rfl) ?_
                          refine va_get (D := D) (ci := 9) (v := .ref (a 17)) (C := RX10) (T := TX10) (N := 30) hx hb hts hi10 hown hK hP 0 rfl rfl 28 (by decide) hw2 (fun _ h9 => h9) rfl dX10_spreadFrom_140 ?_
                          refine lv_iload hx hb dX10_spreadFrom_143 (lv_at hl 0 rfl) ?_
                          refine lv_iload_n hx hb dX10_spreadFrom_145 rfl (lv_at hl 4 rfl) ?_
                          refine va_iast hx hb hK hP hD hS 17 0 rfl rfl (vp_in_nI hg9 (by decide)) dX10_spreadFrom_146 (fun H locs hP hD hS => ?_)
                          have hP : va_P D vwCl (MW cy a J I (va_up (va_up R 16 U9) 17 (upd m1_70 (nI g9).toNatClampNeg (nI f9))) RJ) H := hP
                          have hD : va_D A (MW cy a J I (va_up (va_up R 16 U9) 17 (upd m1_70 (nI g9).toNatClampNeg (nI f9))) RJ) := hD
                          refine lv_iconst (v := 1) hx hb dX10_spreadFrom_147 (by decide) ?_
                          refine lv_istore_n (lv' := [(2, .int 1), (5, .int (nI g9)), (0, .ref (a 0)), (1, .int x0), (3, .int (nI f9)), (4, .int (nI wy))]) hx hb dX10_spreadFrom_148 rfl hl (by decide) rfl (fun ls hl => ?_)
                          refine lv_aload_n hx hb dX10_spreadFrom_149 rfl (lv_at hl 2 rfl) ?_
                          refine va_get (D := D) (ci := 9) (v := .ref (a 15)) (C := RX10) (T := TX10) (N := 30) hx hb hts hi10 hown hK hP 0 rfl rfl 26 (by decide) hw3 (fun _ h9 => h9) rfl dX10_spreadFrom_150 ?_
                          refine lv_iload hx hb dX10_spreadFrom_153 (lv_at hl 1 rfl) ?_
                          refine va_iald hx hb hK hP 15 0 rfl rfl (vp_in_nI hg9 (by decide)) dX10_spreadFrom_155 ?_
                          refine lv_if_ge (tgt := 162) hx hb dX10_spreadFrom_156 (by decide) (fun c_7 => ?_) (fun c_7 => ?_)
                          · obtain ⟨x9, hx9, ex9, hxm⟩ := rg_pos hRG hg9 c_7
                            refine lv_aload_n hx hb dX10_spreadFrom_162 rfl (lv_at hl 2 rfl) ?_
                            refine va_get (D := D) (ci := 9) (v := .ref (a 16)) (C := RX10) (T := TX10) (N := 30) hx hb hts hi10 hown hK hP 0 rfl rfl 27 (by decide) hw0 (fun _ h9 => h9) rfl dX10_spreadFrom_163 ?_
                            refine lv_aload_n hx hb dX10_spreadFrom_166 rfl (lv_at hl 2 rfl) ?_
                            refine va_get (D := D) (ci := 9) (v := .ref (a 15)) (C := RX10) (T := TX10) (N := 30) hx hb hts hi10 hown hK hP 0 rfl rfl 26 (by decide) hw3 (fun _ h9 => h9) rfl dX10_spreadFrom_167 ?_
                            refine lv_iload hx hb dX10_spreadFrom_170 (lv_at hl 1 rfl) ?_
                            refine va_iald hx hb hK hP 15 0 rfl rfl (vp_in_nI hg9 (by decide)) dX10_spreadFrom_172 ?_
                            refine wtop_i (y := nI x9) ex9 ?_
                            refine lv_iconst (v := 1) hx hb dX10_spreadFrom_173 (by decide) ?_
                            refine va_zast hx hb hK hP hD hS 16 2 rfl rfl (vp_in_nI hx9 (by decide)) dX10_spreadFrom_174 (fun H locs hP hD hS => ?_)
                            have hP : va_P D vwCl (MW cy a J I (va_up (va_up R 16 (upd U9 (nI x9).toNatClampNeg (vp_nar .boolean 1))) 17 (upd m1_70 (nI g9).toNatClampNeg (nI f9))) RJ) H := hP
                            have hD : va_D A (MW cy a J I (va_up (va_up R 16 (upd U9 (nI x9).toNatClampNeg (vp_nar .boolean 1))) 17 (upd m1_70 (nI g9).toNatClampNeg (nI f9))) RJ) := hD
                            refine lv_iinc (v := nI (wy + 1)) (lv' := [(4, .int (nI (wy + 1))), (2, .int 1), (5, .int (nI g9)), (0, .ref (a 0)), (1, .int x0), (3, .int (nI f9))]) hx hb dX10_spreadFrom_175 hl (k := 5) rfl (nI_1 _) (by decide) rfl (fun ls hl => ?_)
                            refine lv_goto (tgt := 70) hx hb dX10_spreadFrom_178 (by decide) ?_
                            exact ih70 (wy + 1) true (upd U9 (nI x9).toNatClampNeg (vp_nar .boolean 1)) (upd m1_70 (nI g9).toNatClampNeg (nI f9)) hlt_wy hlt_f9 (by rw [hU9]; exact cz_two hg9 c_6 hc) (by rw [hU9]; rw [nI_clamp (Nat.lt_trans hx9 (by decide))]; rw [nI_clamp (Nat.lt_trans hg9 (by decide))]; exact sk_mate (sk_new hsk hlt_f9 hg9 (by have z := c_2; rw [nI_clamp (Nat.lt_trans hlt_f9 (by decide))] at z; exact z) c_3 (by have z := c_6; rw [nI_clamp (Nat.lt_trans hg9 (by decide))] at z; exact z) (dk_not hcol c_3)) hx9 (hSY.1 _ _ hg9 hx9 (by omega) hxm)) (lt_dec hlt_wy hn70) _ _ hP hD hS ls (lv_sub hl [3, 4, 1, 5, 0] rfl)
                          · refine lv_iload hx hb dX10_spreadFrom_159 (lv_at hl 1 rfl) ?_
                            exact wret_i hx hb hr hlocks (J, I, (va_up (va_up R 16 U9) 17 (upd m1_70 (nI g9).toNatClampNeg (nI f9))), RJ) ⟨U9, (upd m1_70 (nI g9).toNatClampNeg (nI f9)), (by rw [nI_clamp (Nat.lt_trans hg9 (by decide))]; exact sk_end (sk_new hsk hlt_f9 hg9 (by have z := c_2; rw [nI_clamp (Nat.lt_trans hlt_f9 (by decide))] at z; exact z) c_3 (by have z := c_6; rw [nI_clamp (Nat.lt_trans hg9 (by decide))] at z; exact z) (dk_not hcol c_3)) hg9 (rg_neg hRG hg9 c_7)), rfl⟩ hP hD hS dX10_spreadFrom_161
                        · refine lv_goto (tgt := 175) hx hb dX10_spreadFrom_128 (by decide) ?_
                          refine lv_iinc (v := nI (wy + 1)) (lv' := [(4, .int (nI (wy + 1))), (5, .int (nI g9)), (0, .ref (a 0)), (1, .int x0), (2, .int (bI v2_70)), (3, .int (nI f9))]) hx hb dX10_spreadFrom_175 hl (k := 5) rfl (nI_1 _) (by decide) rfl (fun ls hl => ?_)
                          refine lv_goto (tgt := 70) hx hb dX10_spreadFrom_178 (by decide) ?_
                          exact ih70 (wy + 1) v2_70 m0_70 m1_70 hlt_wy hlt_f9 hc hsk (lt_dec hlt_wy hn70) _ _ hP hD hS ls (lv_sub hl [2, 3, 4, 5, 0] rfl)
          refine lv_iload_n hx hb dX10_spreadFrom_61 rfl (lv_at hl 3 rfl) ?_
          refine lv_bipush (v := 64) hx hb dX10_spreadFrom_62 (by decide) ?_
          refine lv_icmp_ge (tgt := 187) hx hb dX10_spreadFrom_64 (by decide) (fun c_8 => ?_) (fun c_8 => ?_)
          · refine lv_goto (tgt := 53) hx hb dX10_spreadFrom_187 (by decide) ?_
            exact ih53 v2_61 m0_61 m1_61 hsk (mz hc hn53 (by rw [hm]; rfl)) _ _ hP hD hS ls (lv_sub hl [0, 1, 2] rfl)
          · have hlt_f9 := ctr_lt (N := 64) (by decide) hf9 c_8
            refine lv_iconst (v := 0) hx hb dX10_spreadFrom_67 (by decide) ?_
            refine lv_istore (lv' := [(4, .int 0), (0, .ref (a 0)), (1, .int x0), (2, .int (bI v2_61)), (3, .int (nI f9))]) hx hb dX10_spreadFrom_68 hl (by decide) rfl (fun ls hl => ?_)
            exact lp70 _ 0 v2_61 m0_61 m1_61 (Nat.zero_le _) hlt_f9 hc hsk (Nat.lt_succ_self _) _ _ hP hD hS ls (lv_sub hl [1, 2, 3, 4, 0] rfl)
      refine lv_iload_n hx hb dX10_spreadFrom_53 rfl (lv_at hl 2 rfl) ?_
      refine lv_if_eq (tgt := 190) hx hb dX10_spreadFrom_54 (by decide) (fun c_9 => ?_) (fun c_9 => ?_)
      · replace c_9 := bI_f c_9
        refine lv_iconst (v := (-1)) hx hb dX10_spreadFrom_190 (by decide) ?_
        exact wret_i hx hb hr hlocks (J, I, (va_up (va_up R 16 m0_53) 17 m1_53), RJ) ⟨m0_53, m1_53, (Or.inl rfl), rfl⟩ hP hD hS dX10_spreadFrom_191
      · replace c_9 := bI_t c_9
        refine lv_iconst (v := 0) hx hb dX10_spreadFrom_57 (by decide) ?_
        refine lv_istore_n (lv' := [(2, .int 0), (0, .ref (a 0)), (1, .int x0)]) hx hb dX10_spreadFrom_58 rfl hl (by decide) rfl (fun ls hl => ?_)
        refine lv_iconst (v := 0) hx hb dX10_spreadFrom_59 (by decide) ?_
        refine lv_istore_n (lv' := [(3, .int 0), (2, .int 0), (0, .ref (a 0)), (1, .int x0)]) hx hb dX10_spreadFrom_60 rfl hl (by decide) rfl (fun ls hl => ?_)
        exact lp61 _ 0 false m0_53 m1_53 (Nat.zero_le _) c_9 cz_no hsk (Nat.lt_succ_self _) _ _ hP hD hS ls (lv_sub hl [2, 3, 1, 0] rfl)
  have lp2 : ∀ (n2 : Nat), ∀ (i : Nat) (m0_2 : Nat → Int32) (m1_2 : Nat → Int32), (i ≤ 64) → (sIn (J 0) m0_2 (R 15) x0 i) → (64 - i) < n2 → ∀ (H : Heap) (locs : List Loc), va_P D vwCl (MW cy a J I (va_up (va_up R 16 m0_2) 17 m1_2) RJ) H → va_D A (MW cy a J I (va_up (va_up R 16 m0_2) 17 m1_2) RJ) → va_S A s.heap H locs → ∀ (ls : Array Slot), lv_has ls 6 [(0, .ref (a 0)), (1, .int x0), (2, .int (nI i))] → W p l e (headSpec wsX10_spreadFrom ({ frames := 2, cells := 0, slots := 0, locals := 45 })).room s m ([.ref (a 0), .int x0] : List Value).toArray below meth c H locs 0 0 (MQ below (va_Qi (fun r (u : MS) => ∃ (w0 : Nat → Int32), ∃ (w1 : Nat → Int32), ((sfOk (J 0) x0 w1 (R 15) r)) ∧ u = (J, I, (va_up (va_up R 16 w0) 17 w1), RJ)) (BW D A (MWu cy a)) A) ([.ref (a 0), .int x0] : List Value).toArray s 0 0 A) (F0 m 2 ls []) := by
    intro n2
    induction n2 with
    | zero => intro i m0_2 m1_2 hi hsi hn; exact absurd hn (Nat.not_lt_zero _)
    | succ n2 ih2 =>
      intro i m0_2 m1_2 hi hsi hn2 H locs hP hD hS ls hl
      refine lv_iload_n hx hb dX10_spreadFrom_2 rfl (lv_at hl 2 rfl) ?_
      refine lv_bipush (v := 64) hx hb dX10_spreadFrom_3 (by decide) ?_
      refine lv_icmp_ge (tgt := 51) hx hb dX10_spreadFrom_5 (by decide) (fun c_10 => ?_) (fun c_10 => ?_)
      · have hie := ctr_ge (N := 64) (by decide) hi c_10
        refine lv_iconst (v := 1) hx hb dX10_spreadFrom_51 (by decide) ?_
        refine lv_istore_n (lv' := [(2, .int 1), (0, .ref (a 0)), (1, .int x0)]) hx hb dX10_spreadFrom_52 rfl hl (by decide) rfl (fun ls hl => ?_)
        exact lp53 _ true m0_2 m1_2 (sk_0 hie hsi) (Nat.lt_succ_self _) _ _ hP hD hS ls (lv_sub hl [1, 2, 0] rfl)
      · have hlt_i := ctr_lt (N := 64) (by decide) hi c_10
        refine lv_aload_n hx hb dX10_spreadFrom_8 rfl (lv_at hl 0 rfl) ?_
        refine va_get (D := D) (ci := 9) (v := .ref (a 16)) (C := RX10) (T := TX10) (N := 30) hx hb hts hi10 hown hK hP 0 rfl rfl 27 (by decide) hw0 (fun _ h9 => h9) rfl dX10_spreadFrom_9 ?_
        refine lv_iload_n hx hb dX10_spreadFrom_12 rfl (lv_at hl 2 rfl) ?_
        refine lv_iload_n hx hb dX10_spreadFrom_13 rfl (lv_at hl 2 rfl) ?_
        refine lv_iload_n hx hb dX10_spreadFrom_14 rfl (lv_at hl 1 rfl) ?_
        refine lv_icmp_eq (tgt := 39) hx hb dX10_spreadFrom_15 (by decide) (fun c_11 => ?_) (fun c_11 => ?_)
        · refine lv_iconst (v := 1) hx hb dX10_spreadFrom_39 (by decide) ?_
          refine lv_goto (tgt := 44) hx hb dX10_spreadFrom_40 (by decide) ?_
          refine va_zast hx hb hK hP hD hS 16 2 rfl rfl (vp_in_nI hlt_i (by decide)) dX10_spreadFrom_44 (fun H locs hP hD hS => ?_)
          have hP : va_P D vwCl (MW cy a J I (va_up (va_up R 16 (upd m0_2 (nI i).toNatClampNeg (vp_nar .boolean 1))) 17 m1_2) RJ) H := hP
          have hD : va_D A (MW cy a J I (va_up (va_up R 16 (upd m0_2 (nI i).toNatClampNeg (vp_nar .boolean 1))) 17 m1_2) RJ) := hD
          refine lv_iinc (v := nI (i + 1)) (lv' := [(2, .int (nI (i + 1))), (0, .ref (a 0)), (1, .int x0)]) hx hb dX10_spreadFrom_45 hl (k := 2) rfl (nI_1 _) (by decide) rfl (fun ls hl => ?_)
          refine lv_goto (tgt := 2) hx hb dX10_spreadFrom_48 (by decide) ?_
          exact ih2 (i + 1) (upd m0_2 (nI i).toNatClampNeg (vp_nar .boolean 1)) m1_2 hlt_i (sIn_up hsi hlt_i (fun _ => ⟨hst i hlt_i c_11, Or.inl c_11⟩)) (lt_dec hlt_i hn2) _ _ hP hD hS ls (lv_sub hl [1, 2, 0] rfl)
        · refine lv_iload_n hx hb dX10_spreadFrom_18 rfl (lv_at hl 1 rfl) ?_
          refine lv_if_ge (tgt := 43) hx hb dX10_spreadFrom_19 (by decide) (fun c_12 => ?_) (fun c_12 => ?_)
          · refine lv_iconst (v := 0) hx hb dX10_spreadFrom_43 (by decide) ?_
            refine va_zast hx hb hK hP hD hS 16 2 rfl rfl (vp_in_nI hlt_i (by decide)) dX10_spreadFrom_44 (fun H locs hP hD hS => ?_)
            have hP : va_P D vwCl (MW cy a J I (va_up (va_up R 16 (upd m0_2 (nI i).toNatClampNeg (vp_nar .boolean 0))) 17 m1_2) RJ) H := hP
            have hD : va_D A (MW cy a J I (va_up (va_up R 16 (upd m0_2 (nI i).toNatClampNeg (vp_nar .boolean 0))) 17 m1_2) RJ) := hD
            refine lv_iinc (v := nI (i + 1)) (lv' := [(2, .int (nI (i + 1))), (0, .ref (a 0)), (1, .int x0)]) hx hb dX10_spreadFrom_45 hl (k := 2) rfl (nI_1 _) (by decide) rfl (fun ls hl => ?_)
            refine lv_goto (tgt := 2) hx hb dX10_spreadFrom_48 (by decide) ?_
            exact ih2 (i + 1) (upd m0_2 (nI i).toNatClampNeg (vp_nar .boolean 0)) m1_2 hlt_i (sIn_up hsi hlt_i (fun z => absurd (by decide) z)) (lt_dec hlt_i hn2) _ _ hP hD hS ls (lv_sub hl [1, 2, 0] rfl)
          · refine lv_aload_n hx hb dX10_spreadFrom_22 rfl (lv_at hl 0 rfl) ?_
            refine lv_iload_n hx hb dX10_spreadFrom_23 rfl (lv_at hl 2 rfl) ?_
            refine kR_i (As := [.int (nI i)]) (rest := [.int (nI i), .ref (a 16)]) (q0 := 0) ⟨hx, hb, hml, hown, hts⟩ (c_X10_isDarkField l D cy a _ J I (va_up (va_up R 16 m0_2) 17 m1_2) RJ (nI i) ) (cwV 1 hts gX10_spreadFrom_X10_isDarkField rfl rfl rfl (by decide +kernel) ⟨Nat.le_of_ble_eq_true rfl, Nat.le_of_ble_eq_true rfl⟩) hK hN hP hD rfl rfl rfl hl.1 rfl (Nat.le_of_ble_eq_true rfl) dX10_spreadFrom_24 ⟨Nat.le_of_ble_eq_true rfl, Nat.le_of_ble_eq_true rfl⟩ ?_
            refine lv_if_eq (tgt := 43) hx hb dX10_spreadFrom_27 (by decide) (fun c_13 => ?_) (fun c_13 => ?_)
            · replace c_13 := bI_f c_13
              refine lv_iconst (v := 0) hx hb dX10_spreadFrom_43 (by decide) ?_
              refine va_zast hx hb hK hP hD hS 16 2 rfl rfl (vp_in_nI hlt_i (by decide)) dX10_spreadFrom_44 (fun H locs hP hD hS => ?_)
              have hP : va_P D vwCl (MW cy a J I (va_up (va_up R 16 (upd m0_2 (nI i).toNatClampNeg (vp_nar .boolean 0))) 17 m1_2) RJ) H := hP
              have hD : va_D A (MW cy a J I (va_up (va_up R 16 (upd m0_2 (nI i).toNatClampNeg (vp_nar .boolean 0))) 17 m1_2) RJ) := hD
              refine lv_iinc (v := nI (i + 1)) (lv' := [(2, .int (nI (i + 1))), (0, .ref (a 0)), (1, .int x0)]) hx hb dX10_spreadFrom_45 hl (k := 2) rfl (nI_1 _) (by decide) rfl (fun ls hl => ?_)
              refine lv_goto (tgt := 2) hx hb dX10_spreadFrom_48 (by decide) ?_
              exact ih2 (i + 1) (upd m0_2 (nI i).toNatClampNeg (vp_nar .boolean 0)) m1_2 hlt_i (sIn_up hsi hlt_i (fun z => absurd (by decide) z)) (lt_dec hlt_i hn2) _ _ hP hD hS ls (lv_sub hl [1, 2, 0] rfl)
            · replace c_13 := bI_t c_13
              refine lv_aload_n hx hb dX10_spreadFrom_30 rfl (lv_at hl 0 rfl) ?_
              refine va_get (D := D) (ci := 9) (v := .ref (a 15)) (C := RX10) (T := TX10) (N := 30) hx hb hts hi10 hown hK hP 0 rfl rfl 26 (by decide) hw3 (fun _ h9 => h9) rfl dX10_spreadFrom_31 ?_
              refine lv_iload_n hx hb dX10_spreadFrom_34 rfl (lv_at hl 2 rfl) ?_
              refine va_iald hx hb hK hP 15 0 rfl rfl (vp_in_nI hlt_i (by decide)) dX10_spreadFrom_35 ?_
              refine lv_if_ge (tgt := 43) hx hb dX10_spreadFrom_36 (by decide) (fun c_14 => ?_) (fun c_14 => ?_)
              · refine lv_iconst (v := 0) hx hb dX10_spreadFrom_43 (by decide) ?_
                refine va_zast hx hb hK hP hD hS 16 2 rfl rfl (vp_in_nI hlt_i (by decide)) dX10_spreadFrom_44 (fun H locs hP hD hS => ?_)
                have hP : va_P D vwCl (MW cy a J I (va_up (va_up R 16 (upd m0_2 (nI i).toNatClampNeg (vp_nar .boolean 0))) 17 m1_2) RJ) H := hP
                have hD : va_D A (MW cy a J I (va_up (va_up R 16 (upd m0_2 (nI i).toNatClampNeg (vp_nar .boolean 0))) 17 m1_2) RJ) := hD
                refine lv_iinc (v := nI (i + 1)) (lv' := [(2, .int (nI (i + 1))), (0, .ref (a 0)), (1, .int x0)]) hx hb dX10_spreadFrom_45 hl (k := 2) rfl (nI_1 _) (by decide) rfl (fun ls hl => ?_)
                refine lv_goto (tgt := 2) hx hb dX10_spreadFrom_48 (by decide) ?_
                exact ih2 (i + 1) (upd m0_2 (nI i).toNatClampNeg (vp_nar .boolean 0)) m1_2 hlt_i (sIn_up hsi hlt_i (fun z => absurd (by decide) z)) (lt_dec hlt_i hn2) _ _ hP hD hS ls (lv_sub hl [1, 2, 0] rfl)
              · refine lv_iconst (v := 1) hx hb dX10_spreadFrom_39 (by decide) ?_
                refine lv_goto (tgt := 44) hx hb dX10_spreadFrom_40 (by decide) ?_
                refine va_zast hx hb hK hP hD hS 16 2 rfl rfl (vp_in_nI hlt_i (by decide)) dX10_spreadFrom_44 (fun H locs hP hD hS => ?_)
                have hP : va_P D vwCl (MW cy a J I (va_up (va_up R 16 (upd m0_2 (nI i).toNatClampNeg (vp_nar .boolean 1))) 17 m1_2) RJ) H := hP
                have hD : va_D A (MW cy a J I (va_up (va_up R 16 (upd m0_2 (nI i).toNatClampNeg (vp_nar .boolean 1))) 17 m1_2) RJ) := hD
                refine lv_iinc (v := nI (i + 1)) (lv' := [(2, .int (nI (i + 1))), (0, .ref (a 0)), (1, .int x0)]) hx hb dX10_spreadFrom_45 hl (k := 2) rfl (nI_1 _) (by decide) rfl (fun ls hl => ?_)
                refine lv_goto (tgt := 2) hx hb dX10_spreadFrom_48 (by decide) ?_
                exact ih2 (i + 1) (upd m0_2 (nI i).toNatClampNeg (vp_nar .boolean 1)) m1_2 hlt_i (sIn_up hsi hlt_i (fun _ => ⟨rg_neg hRG hlt_i c_14, Or.inr (i32_lt c_12)⟩)) (lt_dec hlt_i hn2) _ _ hP hD hS ls (lv_sub hl [1, 2, 0] rfl)
  refine lv_iconst (v := 0) hx hb dX10_spreadFrom_0 (by decide) ?_
  refine lv_istore_n (lv' := [(2, .int 0), (0, .ref (a 0)), (1, .int x0)]) hx hb dX10_spreadFrom_1 rfl hl (by decide) rfl (fun ls hl => ?_)
  exact lp2 _ 0 (R 16) (R 17) (by omega) sIn_0 (Nat.lt_succ_self _) _ _ hP hD hS ls (lv_sub hl [1, 2, 0] rfl)
