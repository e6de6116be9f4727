theorem bm1 : ∀ q : Fin 100, ¬ (nI q.val - nI q.val / 10 * 10 ≤ 0) → ¬ (nI q.val - 1 < 0 ∨ 100 ≤ (nI q.val - 1).toNatClampNeg) := by decide +kernel
theorem bm2 : ∀ q : Fin 100, ¬ ((9 : Int32) ≤ nI q.val - nI q.val / 10 * 10) → ¬ (nI q.val + 1 < 0 ∨ 100 ≤ (nI q.val + 1).toNatClampNeg) := by decide +kernel
theorem bm3 : ∀ q : Fin 100, ¬ (nI q.val ≤ 9) → ¬ (nI q.val - 10 < 0 ∨ 100 ≤ (nI q.val - 10).toNatClampNeg) := by decide +kernel
theorem bm4 : ∀ q : Fin 100, ¬ ((90 : Int32) ≤ nI q.val) → ¬ (nI q.val + 10 < 0 ∨ 100 ≤ (nI q.val + 10).toNatClampNeg) := by decide +kernel
def cntz (m : Nat → Int32) : Nat → Nat
  | 0 => 0
  | n + 1 => cntz m n + if m n = 0 then 1 else 0
theorem cntz_out {m : Nat → Int32} {q : Nat} {v : Int32} : ∀ n, n ≤ q → cntz (upd m q v) n = cntz m n
  | 0, _ => rfl
  | n + 1, h => by rw [cntz, cntz, cntz_out n (by omega), pk_un (by omega)]
theorem cntz_upd {m : Nat → Int32} {q : Nat} {v : Int32} (h0 : m q = 0) (hv : ¬ v = 0) : ∀ n, q < n → cntz (upd m q v) n + 1 = cntz m n
  | 0, h => absurd h (Nat.not_lt_zero _)
  | n + 1, h => by
    rw [cntz, cntz]
    by_cases e : q = n
    · subst e
      rw [cntz_out q (Nat.le_refl q), pk_us, if_neg hv, if_pos h0]
    · have ih := cntz_upd h0 hv n (by omega)
      rw [pk_un (fun z => e z.symm)]
      omega
def bN (b : Bool) : Nat := if b then 1 else 0
theorem mz {a b c d n : Nat} (h1 : a + b ≤ c) (h2 : c + d < n + 1) (h3 : d = 1) : a + b < n := by omega
theorem lt_dec {N i n : Nat} (h : i < N) (h2 : N - i < n + 1) : N - (i + 1) < n := by omega
theorem mz2 {a b c d : Nat} (h1 : a + b ≤ c) (e : d + 1 = a) : d + 1 ≤ c := by omega
theorem cz_set {m m0 : Nat → Int32} {q : Nat} {b : Bool} (hq : q < 100) (h0 : m (nI q).toNatClampNeg = 0) (h : cntz m 100 + bN b ≤ cntz m0 100) : cntz (upd m (nI q).toNatClampNeg (vp_nar .boolean 1)) 100 + bN true ≤ cntz m0 100 := by
  rw [nI_clamp (Nat.lt_trans hq (by decide))] at *
  exact mz2 h (cntz_upd (m := m) (q := q) (v := vp_nar .boolean 1) h0 (by decide) 100 hq)
theorem dX10_isBesideMet_125 : decode cX10_isBesideMet 125 = .ok (.iload_n 3, 1) := by decide +kernel
theorem dX10_isBesideMet_126 : decode cX10_isBesideMet 126 = .ok (.ifCond .ne 36, 3) := by decide +kernel
theorem dX10_isBesideMet_162 : decode cX10_isBesideMet 162 = .ok (.iconst 1, 1) := by decide +kernel
theorem dX10_isBesideMet_163 : decode cX10_isBesideMet 163 = .ok (.goto 4, 3) := by decide +kernel
theorem dX10_isBesideMet_167 : decode cX10_isBesideMet 167 = .ok (.ireturn, 1) := by decide +kernel
theorem dX10_isBesideMet_129 : decode cX10_isBesideMet 129 = .ok (.iload_n 1, 1) := by decide +kernel
theorem dX10_isBesideMet_130 : decode cX10_isBesideMet 130 = .ok (.bipush 90, 2) := by decide +kernel
theorem dX10_isBesideMet_132 : decode cX10_isBesideMet 132 = .ok (.if_icmp .ge 34, 3) := by decide +kernel
theorem dX10_isBesideMet_166 : decode cX10_isBesideMet 166 = .ok (.iconst 0, 1) := by decide +kernel
theorem dX10_isBesideMet_135 : decode cX10_isBesideMet 135 = .ok (.aload_n 0, 1) := by decide +kernel
theorem dX10_isBesideMet_136 : decode cX10_isBesideMet 136 = .ok (.getfield 42, 3) := by decide +kernel
theorem dX10_isBesideMet_139 : decode cX10_isBesideMet 139 = .ok (.iload_n 1, 1) := by decide +kernel
theorem dX10_isBesideMet_140 : decode cX10_isBesideMet 140 = .ok (.bipush 10, 2) := by decide +kernel
theorem dX10_isBesideMet_142 : decode cX10_isBesideMet 142 = .ok (.iadd, 1) := by decide +kernel
theorem dX10_isBesideMet_143 : decode cX10_isBesideMet 143 = .ok (.baload, 1) := by decide +kernel
theorem dX10_isBesideMet_144 : decode cX10_isBesideMet 144 = .ok (.ifCond .eq 22, 3) := by decide +kernel
theorem dX10_isBesideMet_147 : decode cX10_isBesideMet 147 = .ok (.aload_n 0, 1) := by decide +kernel
theorem dX10_isBesideMet_148 : decode cX10_isBesideMet 148 = .ok (.getfield 81, 3) := by decide +kernel
theorem dX10_isBesideMet_151 : decode cX10_isBesideMet 151 = .ok (.iload_n 1, 1) := by decide +kernel
theorem dX10_isBesideMet_152 : decode cX10_isBesideMet 152 = .ok (.bipush 10, 2) := by decide +kernel
theorem dX10_isBesideMet_154 : decode cX10_isBesideMet 154 = .ok (.iadd, 1) := by decide +kernel
theorem dX10_isBesideMet_155 : decode cX10_isBesideMet 155 = .ok (.iload_n 2, 1) := by decide +kernel
set_option maxRecDepth 20000 in
theorem ggX10_isBesideMet_X10_isOf : GoodIn wsX10_isBesideMet wsX10_isOf := goodIn_r _ [6, 7, 8, 5, 9, 10, 11, 12, 13, 14, 15] rfl (by decide +kernel)
set_option maxRecDepth 20000 in
theorem gX10_isBesideMet_X10_isOf : GoodIn wsX10_isBesideMet (va_wsS RX10 150 yX10_isOf wsX10_isOf) := goodIn_app (goodIn_r _ [3, 4, 5] rfl (by decide +kernel)) ggX10_isBesideMet_X10_isOf
theorem dX10_isBesideMet_156 : decode cX10_isBesideMet 156 = .ok (.invokestatic 150, 3) := by decide +kernel
theorem dX10_isBesideMet_159 : decode cX10_isBesideMet 159 = .ok (.ifCond .eq 7, 3) := by decide +kernel
theorem dX10_isBesideMet_82 : decode cX10_isBesideMet 82 = .ok (.iload_n 3, 1) := by decide +kernel
theorem dX10_isBesideMet_83 : decode cX10_isBesideMet 83 = .ok (.ifCond .ne 36, 3) := by decide +kernel
theorem dX10_isBesideMet_119 : decode cX10_isBesideMet 119 = .ok (.iconst 1, 1) := by decide +kernel
theorem dX10_isBesideMet_120 : decode cX10_isBesideMet 120 = .ok (.goto 4, 3) := by decide +kernel
theorem dX10_isBesideMet_124 : decode cX10_isBesideMet 124 = .ok (.istore_n 3, 1) := by decide +kernel
theorem dX10_isBesideMet_86 : decode cX10_isBesideMet 86 = .ok (.iload_n 1, 1) := by decide +kernel
theorem dX10_isBesideMet_87 : decode cX10_isBesideMet 87 = .ok (.bipush 9, 2) := by decide +kernel
theorem dX10_isBesideMet_89 : decode cX10_isBesideMet 89 = .ok (.if_icmp .le 34, 3) := by decide +kernel
theorem dX10_isBesideMet_123 : decode cX10_isBesideMet 123 = .ok (.iconst 0, 1) := by decide +kernel
theorem dX10_isBesideMet_92 : decode cX10_isBesideMet 92 = .ok (.aload_n 0, 1) := by decide +kernel
theorem dX10_isBesideMet_93 : decode cX10_isBesideMet 93 = .ok (.getfield 42, 3) := by decide +kernel
theorem dX10_isBesideMet_96 : decode cX10_isBesideMet 96 = .ok (.iload_n 1, 1) := by decide +kernel
theorem dX10_isBesideMet_97 : decode cX10_isBesideMet 97 = .ok (.bipush 10, 2) := by decide +kernel
theorem dX10_isBesideMet_99 : decode cX10_isBesideMet 99 = .ok (.isub, 1) := by decide +kernel
theorem dX10_isBesideMet_100 : decode cX10_isBesideMet 100 = .ok (.baload, 1) := by decide +kernel
theorem dX10_isBesideMet_101 : decode cX10_isBesideMet 101 = .ok (.ifCond .eq 22, 3) := by decide +kernel
theorem dX10_isBesideMet_104 : decode cX10_isBesideMet 104 = .ok (.aload_n 0, 1) := by decide +kernel
theorem dX10_isBesideMet_105 : decode cX10_isBesideMet 105 = .ok (.getfield 81, 3) := by decide +kernel
theorem dX10_isBesideMet_108 : decode cX10_isBesideMet 108 = .ok (.iload_n 1, 1) := by decide +kernel
theorem dX10_isBesideMet_109 : decode cX10_isBesideMet 109 = .ok (.bipush 10, 2) := by decide +kernel
theorem dX10_isBesideMet_111 : decode cX10_isBesideMet 111 = .ok (.isub, 1) := by decide +kernel
theorem dX10_isBesideMet_112 : decode cX10_isBesideMet 112 = .ok (.iload_n 2, 1) := by decide +kernel
theorem dX10_isBesideMet_113 : decode cX10_isBesideMet 113 = .ok (.invokestatic 150, 3) := by decide +kernel
theorem dX10_isBesideMet_116 : decode cX10_isBesideMet 116 = .ok (.ifCond .eq 7, 3) := by decide +kernel
theorem dX10_isBesideMet_38 : decode cX10_isBesideMet 38 = .ok (.iload_n 3, 1) := by decide +kernel
theorem dX10_isBesideMet_39 : decode cX10_isBesideMet 39 = .ok (.ifCond .ne 37, 3) := by decide +kernel
theorem dX10_isBesideMet_76 : decode cX10_isBesideMet 76 = .ok (.iconst 1, 1) := by decide +kernel
theorem dX10_isBesideMet_77 : decode cX10_isBesideMet 77 = .ok (.goto 4, 3) := by decide +kernel
theorem dX10_isBesideMet_81 : decode cX10_isBesideMet 81 = .ok (.istore_n 3, 1) := by decide +kernel
theorem dX10_isBesideMet_42 : decode cX10_isBesideMet 42 = .ok (.iload_n 1, 1) := by decide +kernel
theorem dX10_isBesideMet_43 : decode cX10_isBesideMet 43 = .ok (.bipush 10, 2) := by decide +kernel
theorem dX10_isBesideMet_45 : decode cX10_isBesideMet 45 = .ok (.irem, 1) := by decide +kernel
theorem dX10_isBesideMet_46 : decode cX10_isBesideMet 46 = .ok (.bipush 9, 2) := by decide +kernel
theorem dX10_isBesideMet_48 : decode cX10_isBesideMet 48 = .ok (.if_icmp .ge 32, 3) := by decide +kernel
theorem dX10_isBesideMet_80 : decode cX10_isBesideMet 80 = .ok (.iconst 0, 1) := by decide +kernel
theorem dX10_isBesideMet_51 : decode cX10_isBesideMet 51 = .ok (.aload_n 0, 1) := by decide +kernel
theorem dX10_isBesideMet_52 : decode cX10_isBesideMet 52 = .ok (.getfield 42, 3) := by decide +kernel
theorem dX10_isBesideMet_55 : decode cX10_isBesideMet 55 = .ok (.iload_n 1, 1) := by decide +kernel
theorem dX10_isBesideMet_56 : decode cX10_isBesideMet 56 = .ok (.iconst 1, 1) := by decide +kernel
theorem dX10_isBesideMet_57 : decode cX10_isBesideMet 57 = .ok (.iadd, 1) := by decide +kernel
theorem dX10_isBesideMet_58 : decode cX10_isBesideMet 58 = .ok (.baload, 1) := by decide +kernel
theorem dX10_isBesideMet_59 : decode cX10_isBesideMet 59 = .ok (.ifCond .eq 21, 3) := by decide +kernel
theorem dX10_isBesideMet_62 : decode cX10_isBesideMet 62 = .ok (.aload_n 0, 1) := by decide +kernel
theorem dX10_isBesideMet_63 : decode cX10_isBesideMet 63 = .ok (.getfield 81, 3) := by decide +kernel
theorem dX10_isBesideMet_66 : decode cX10_isBesideMet 66 = .ok (.iload_n 1, 1) := by decide +kernel
theorem dX10_isBesideMet_67 : decode cX10_isBesideMet 67 = .ok (.iconst 1, 1) := by decide +kernel
theorem dX10_isBesideMet_68 : decode cX10_isBesideMet 68 = .ok (.iadd, 1) := by decide +kernel
theorem dX10_isBesideMet_69 : decode cX10_isBesideMet 69 = .ok (.iload_n 2, 1) := by decide +kernel
theorem dX10_isBesideMet_70 : decode cX10_isBesideMet 70 = .ok (.invokestatic 150, 3) := by decide +kernel
theorem dX10_isBesideMet_73 : decode cX10_isBesideMet 73 = .ok (.ifCond .eq 7, 3) := by decide +kernel
theorem dX10_isBesideMet_0 : decode cX10_isBesideMet 0 = .ok (.iload_n 1, 1) := by decide +kernel
theorem dX10_isBesideMet_1 : decode cX10_isBesideMet 1 = .ok (.bipush 10, 2) := by decide +kernel
theorem dX10_isBesideMet_3 : decode cX10_isBesideMet 3 = .ok (.irem, 1) := by decide +kernel
theorem dX10_isBesideMet_4 : decode cX10_isBesideMet 4 = .ok (.ifCond .le 32, 3) := by decide +kernel
theorem dX10_isBesideMet_36 : decode cX10_isBesideMet 36 = .ok (.iconst 0, 1) := by decide +kernel
theorem dX10_isBesideMet_37 : decode cX10_isBesideMet 37 = .ok (.istore_n 3, 1) := by decide +kernel
theorem dX10_isBesideMet_7 : decode cX10_isBesideMet 7 = .ok (.aload_n 0, 1) := by decide +kernel
theorem dX10_isBesideMet_8 : decode cX10_isBesideMet 8 = .ok (.getfield 42, 3) := by decide +kernel
theorem dX10_isBesideMet_11 : decode cX10_isBesideMet 11 = .ok (.iload_n 1, 1) := by decide +kernel
theorem dX10_isBesideMet_12 : decode cX10_isBesideMet 12 = .ok (.iconst 1, 1) := by decide +kernel
theorem dX10_isBesideMet_13 : decode cX10_isBesideMet 13 = .ok (.isub, 1) := by decide +kernel
theorem dX10_isBesideMet_14 : decode cX10_isBesideMet 14 = .ok (.baload, 1) := by decide +kernel
theorem dX10_isBesideMet_15 : decode cX10_isBesideMet 15 = .ok (.ifCond .eq 21, 3) := by decide +kernel
theorem dX10_isBesideMet_18 : decode cX10_isBesideMet 18 = .ok (.aload_n 0, 1) := by decide +kernel
theorem dX10_isBesideMet_19 : decode cX10_isBesideMet 19 = .ok (.getfield 81, 3) := by decide +kernel
theorem dX10_isBesideMet_22 : decode cX10_isBesideMet 22 = .ok (.iload_n 1, 1) := by decide +kernel
theorem dX10_isBesideMet_23 : decode cX10_isBesideMet 23 = .ok (.iconst 1, 1) := by decide +kernel
theorem dX10_isBesideMet_24 : decode cX10_isBesideMet 24 = .ok (.isub, 1) := by decide +kernel
theorem dX10_isBesideMet_25 : decode cX10_isBesideMet 25 = .ok (.iload_n 2, 1) := by decide +kernel
theorem dX10_isBesideMet_26 : decode cX10_isBesideMet 26 = .ok (.invokestatic 150, 3) := by decide +kernel
theorem dX10_isBesideMet_29 : decode cX10_isBesideMet 29 = .ok (.ifCond .eq 7, 3) := by decide +kernel
theorem dX10_isBesideMet_32 : decode cX10_isBesideMet 32 = .ok (.iconst 1, 1) := by decide +kernel
theorem dX10_isBesideMet_33 : decode cX10_isBesideMet 33 = .ok (.goto 4, 3) := by decide +kernel
set_option maxRecDepth 20000 in
theorem ihX10_isBesideMet_10 : ∀ w ∈ u_ws RX10 TX10 30, w ∈ wsX10_isBesideMet := fun _ h => List.mem_cons_of_mem _ (List.mem_append_right _ h)
set_option maxHeartbeats 4000000 in
set_option maxRecDepth 100000 in
theorem t_X10_isBesideMet (l : Launch) (D : va_G) (cy : Nat → ClassId) (a : Nat → Nat) (sz : Nat) (J : Nat → Int64) (I : Nat → Int32) (R : Nat → Nat → Int32) (RJ : Nat → Nat → Int64) (x0 : Nat) (x1 : Bool) (hx0 : x0 < 100) : Met l yX10_isBesideMet wsX10_isBesideMet ({ frames := 3, cells := 0, slots := 0, locals := 68 }) (va_Pc [.ref (a 0), .int (nI x0), .int (bI x1)] (PW D cy sz (MW cy a J I R RJ))) (va_Qi (fun r (u : MS) => ∃ (b : Bool), (r = bI b) ∧ u = (J, I, R, RJ)) (BW D (va_A (MW cy a J I R RJ) sz) (MWu cy a)) (va_A (MW cy a J I R RJ) sz)) 0 0 (va_A (MW cy a J I R RJ) sz) := by
  refine Met.ofW (cc := cX10_isBesideMet) (maxL := 4) (ret := (some .boolean)) (by decide) rfl ?_
  intro p e s m args below meth c s₁ B hml hv
  obtain ⟨rfl, rfl, hP, hK, hN, hD0⟩ := hv
  have hx := B.exec
  have hb := B.bytes
  have hr := B.returns
  have hts := atoms_spec (ws := wsX10_isBesideMet) B.pre
  have hown : s.vm.findClass RX10 = some m.cls := findClass_of_methodNamed B.named
  have hlocks := B.notSynchronized
  have hw0 := hts (.fieldLink RX10 42 "ParquetLayerModel" "met" "[Z") (by decide +kernel)
  have hw1 := hts (.fieldLink RX10 81 "ParquetLayerModel" "floor" "J") (by decide +kernel)
  have hi10 := ihX10_isBesideMet_10
  have hD := hD0.self (sz := s.heap.size)
  generalize hAe : va_A (MW cy a J I R RJ) s.heap.size = A at hD ⊢
  have hA : ∀ q : Nat, s.heap.size ≤ q → A q := fun q h => by rw [← hAe]; exact Or.inr h
  have hS : va_S A s.heap s.heap [] := va_S.rf
  have hl := lv_entry ([.ref (a 0), .int (nI x0), .int (bI x1)]) (n := 4) (Nat.le_of_ble_eq_true rfl)
  rw [lg_entry_eq]
  generalize (lg_sl ([.ref (a 0), .int (nI x0), .int (bI x1)]) ++ List.replicate (4 - (lg_sl ([.ref (a 0), .int (nI x0), .int (bI x1)])).length) Slot.unset).toArray = ls at hl ⊢
  have hl : lv_has ls 4 [(0, .ref (a 0)), (1, .int (nI x0)), (2, .int (bI x1))] := hl
  have lp125 : ∀ (v3_125 : Bool), ∀ (H : Heap) (locs : List Loc), va_P D vwCl (MW cy a J I R RJ) H → va_D A (MW cy a J I R RJ) → va_S A s.heap H locs → ∀ (ls : Array Slot), lv_has ls 4 [(0, .ref (a 0)), (1, .int (nI x0)), (2, .int (bI x1)), (3, .int (bI v3_125))] → W p l e (headSpec wsX10_isBesideMet ({ frames := 3, cells := 0, slots := 0, locals := 68 })).room s m ([.ref (a 0), .int (nI x0), .int (bI x1)] : List Value).toArray below meth c H locs 0 0 (MQ below (va_Qi (fun r (u : MS) => ∃ (b : Bool), (r = bI b) ∧ u = (J, I, R, RJ)) (BW D A (MWu cy a)) A) ([.ref (a 0), .int (nI x0), .int (bI x1)] : List Value).toArray s 0 0 A) (F0 m 125 ls []) := by
    intro v3_125  H locs hP hD hS ls hl
    refine lv_iload_n hx hb dX10_isBesideMet_125 rfl (lv_at hl 3 rfl) ?_
    refine lv_if_ne (tgt := 162) hx hb dX10_isBesideMet_126 (by decide) (fun c_1 => ?_) (fun c_1 => ?_)
    · replace c_1 := bI_t c_1
      refine lv_iconst (v := 1) hx hb dX10_isBesideMet_162 (by decide) ?_
      refine lv_goto (tgt := 167) hx hb dX10_isBesideMet_163 (by decide) ?_
      exact wret_z hx hb hr hlocks rfl (J, I, R, RJ) ⟨true, rfl, rfl⟩ hP hD hS dX10_isBesideMet_167
    · replace c_1 := bI_f c_1
      refine lv_iload_n hx hb dX10_isBesideMet_129 rfl (lv_at hl 1 rfl) ?_
      refine lv_bipush (v := 90) hx hb dX10_isBesideMet_130 (by decide) ?_
      refine lv_icmp_ge (tgt := 166) hx hb dX10_isBesideMet_132 (by decide) (fun c_2 => ?_) (fun c_2 => ?_)
      · refine lv_iconst (v := 0) hx hb dX10_isBesideMet_166 (by decide) ?_
        exact wret_z hx hb hr hlocks rfl (J, I, R, RJ) ⟨false, rfl, rfl⟩ hP hD hS dX10_isBesideMet_167
      · refine lv_aload_n hx hb dX10_isBesideMet_135 rfl (lv_at hl 0 rfl) ?_
        refine va_get (D := D) (ci := 9) (v := .ref (a 11)) (C := RX10) (T := TX10) (N := 30) hx hb hts hi10 hown hK hP 0 rfl rfl 17 (by decide) hw0 (fun _ h9 => h9) rfl dX10_isBesideMet_136 ?_
        refine lv_iload_n hx hb dX10_isBesideMet_139 rfl (lv_at hl 1 rfl) ?_
        refine lv_bipush (v := 10) hx hb dX10_isBesideMet_140 (by decide) ?_
        refine lv_iadd hx hb dX10_isBesideMet_142 ?_
        refine va_zald hx hb hK hP 11 2 rfl rfl (bm4 ⟨x0, hx0⟩ c_2) dX10_isBesideMet_143 ?_
        refine lv_if_eq (tgt := 166) hx hb dX10_isBesideMet_144 (by decide) (fun c_3 => ?_) (fun c_3 => ?_)
        · refine lv_iconst (v := 0) hx hb dX10_isBesideMet_166 (by decide) ?_
          exact wret_z hx hb hr hlocks rfl (J, I, R, RJ) ⟨false, rfl, rfl⟩ hP hD hS dX10_isBesideMet_167
        · refine lv_aload_n hx hb dX10_isBesideMet_147 rfl (lv_at hl 0 rfl) ?_
          refine va_get (D := D) (ci := 9) (v := .long (J 0)) (C := RX10) (T := TX10) (N := 30) hx hb hts hi10 hown hK hP 0 rfl rfl 0 (by decide) hw1 (fun _ h9 => h9) rfl dX10_isBesideMet_148 ?_
          refine lv_iload_n hx hb dX10_isBesideMet_151 rfl (lv_at hl 1 rfl) ?_
          refine lv_bipush (v := 10) hx hb dX10_isBesideMet_152 (by decide) ?_
          refine lv_iadd hx hb dX10_isBesideMet_154 ?_
          refine lv_iload_n hx hb dX10_isBesideMet_155 rfl (lv_at hl 2 rfl) ?_
          refine kS_i (As := [.long (J 0), .int ((nI x0) + 10), .int (bI x1)]) (rest := []) ⟨hx, hb, hml, hown, hts⟩ (c_X10_isOf l (J 0) ((nI x0) + 10) x1) (va_cwS 3 hts gX10_isBesideMet_X10_isOf rfl rfl rfl (by decide +kernel) ⟨Nat.le_of_ble_eq_true rfl, Nat.le_of_ble_eq_true rfl⟩) rfl hl.1 rfl (Nat.le_of_ble_eq_true rfl) dX10_isBesideMet_156 ⟨Nat.le_of_ble_eq_true rfl, Nat.le_of_ble_eq_true rfl⟩ ?_
          refine lv_if_eq (tgt := 166) hx hb dX10_isBesideMet_159 (by decide) (fun c_4 => ?_) (fun c_4 => ?_)
          · replace c_4 := bI_f c_4
            refine lv_iconst (v := 0) hx hb dX10_isBesideMet_166 (by decide) ?_
            exact wret_z hx hb hr hlocks rfl (J, I, R, RJ) ⟨false, rfl, rfl⟩ hP hD hS dX10_isBesideMet_167
          · replace c_4 := bI_t c_4
            refine lv_iconst (v := 1) hx hb dX10_isBesideMet_162 (by decide) ?_
            refine lv_goto (tgt := 167) hx hb dX10_isBesideMet_163 (by decide) ?_
            exact wret_z hx hb hr hlocks rfl (J, I, R, RJ) ⟨true, rfl, rfl⟩ hP hD hS dX10_isBesideMet_167
  have lp82 : ∀ (v3_82 : Bool), ∀ (H : Heap) (locs : List Loc), va_P D vwCl (MW cy a J I R RJ) H → va_D A (MW cy a J I R RJ) → va_S A s.heap H locs → ∀ (ls : Array Slot), lv_has ls 4 [(0, .ref (a 0)), (1, .int (nI x0)), (2, .int (bI x1)), (3, .int (bI v3_82))] → W p l e (headSpec wsX10_isBesideMet ({ frames := 3, cells := 0, slots := 0, locals := 68 })).room s m ([.ref (a 0), .int (nI x0), .int (bI x1)] : List Value).toArray below meth c H locs 0 0 (MQ below (va_Qi (fun r (u : MS) => ∃ (b : Bool), (r = bI b) ∧ u = (J, I, R, RJ)) (BW D A (MWu cy a)) A) ([.ref (a 0), .int (nI x0), .int (bI x1)] : List Value).toArray s 0 0 A) (F0 m 82 ls []) := by
    intro v3_82  H locs hP hD hS ls hl
    refine lv_iload_n hx hb dX10_isBesideMet_82 rfl (lv_at hl 3 rfl) ?_
    refine lv_if_ne (tgt := 119) hx hb dX10_isBesideMet_83 (by decide) (fun c_5 => ?_) (fun c_5 => ?_)
    · replace c_5 := bI_t c_5
      refine lv_iconst (v := 1) hx hb dX10_isBesideMet_119 (by decide) ?_
      refine lv_goto (tgt := 124) hx hb dX10_isBesideMet_120 (by decide) ?_
      refine lv_istore_n (lv' := [(3, .int 1), (0, .ref (a 0)), (1, .int (nI x0)), (2, .int (bI x1))]) hx hb dX10_isBesideMet_124 rfl hl (by decide) rfl (fun ls hl => ?_)
      exact lp125 true   _ _ hP hD hS ls (lv_sub hl [1, 2, 3, 0] rfl)
    · replace c_5 := bI_f c_5
      refine lv_iload_n hx hb dX10_isBesideMet_86 rfl (lv_at hl 1 rfl) ?_
      refine lv_bipush (v := 9) hx hb dX10_isBesideMet_87 (by decide) ?_
      refine lv_icmp_le (tgt := 123) hx hb dX10_isBesideMet_89 (by decide) (fun c_6 => ?_) (fun c_6 => ?_)
      · refine lv_iconst (v := 0) hx hb dX10_isBesideMet_123 (by decide) ?_
        refine lv_istore_n (lv' := [(3, .int 0), (0, .ref (a 0)), (1, .int (nI x0)), (2, .int (bI x1))]) hx hb dX10_isBesideMet_124 rfl hl (by decide) rfl (fun ls hl => ?_)
        exact lp125 false   _ _ hP hD hS ls (lv_sub hl [1, 2, 3, 0] rfl)
      · refine lv_aload_n hx hb dX10_isBesideMet_92 rfl (lv_at hl 0 rfl) ?_
        refine va_get (D := D) (ci := 9) (v := .ref (a 11)) (C := RX10) (T := TX10) (N := 30) hx hb hts hi10 hown hK hP 0 rfl rfl 17 (by decide) hw0 (fun _ h9 => h9) rfl dX10_isBesideMet_93 ?_
        refine lv_iload_n hx hb dX10_isBesideMet_96 rfl (lv_at hl 1 rfl) ?_
        refine lv_bipush (v := 10) hx hb dX10_isBesideMet_97 (by decide) ?_
        refine lv_isub hx hb dX10_isBesideMet_99 ?_
        refine va_zald hx hb hK hP 11 2 rfl rfl (bm3 ⟨x0, hx0⟩ c_6) dX10_isBesideMet_100 ?_
        refine lv_if_eq (tgt := 123) hx hb dX10_isBesideMet_101 (by decide) (fun c_7 => ?_) (fun c_7 => ?_)
        · refine lv_iconst (v := 0) hx hb dX10_isBesideMet_123 (by decide) ?_
          refine lv_istore_n (lv' := [(3, .int 0), (0, .ref (a 0)), (1, .int (nI x0)), (2, .int (bI x1))]) hx hb dX10_isBesideMet_124 rfl hl (by decide) rfl (fun ls hl => ?_)
          exact lp125 false   _ _ hP hD hS ls (lv_sub hl [1, 2, 3, 0] rfl)
        · refine lv_aload_n hx hb dX10_isBesideMet_104 rfl (lv_at hl 0 rfl) ?_
          refine va_get (D := D) (ci := 9) (v := .long (J 0)) (C := RX10) (T := TX10) (N := 30) hx hb hts hi10 hown hK hP 0 rfl rfl 0 (by decide) hw1 (fun _ h9 => h9) rfl dX10_isBesideMet_105 ?_
          refine lv_iload_n hx hb dX10_isBesideMet_108 rfl (lv_at hl 1 rfl) ?_
          refine lv_bipush (v := 10) hx hb dX10_isBesideMet_109 (by decide) ?_
          refine lv_isub hx hb dX10_isBesideMet_111 ?_
          refine lv_iload_n hx hb dX10_isBesideMet_112 rfl (lv_at hl 2 rfl) ?_
          refine kS_i (As := [.long (J 0), .int ((nI x0) - 10), .int (bI x1)]) (rest := []) ⟨hx, hb, hml, hown, hts⟩ (c_X10_isOf l (J 0) ((nI x0) - 10) x1) (va_cwS 3 hts gX10_isBesideMet_X10_isOf rfl rfl rfl (by decide +kernel) ⟨Nat.le_of_ble_eq_true rfl, Nat.le_of_ble_eq_true rfl⟩) rfl hl.1 rfl (Nat.le_of_ble_eq_true rfl) dX10_isBesideMet_113 ⟨Nat.le_of_ble_eq_true rfl, Nat.le_of_ble_eq_true rfl⟩ ?_
          refine lv_if_eq (tgt := 123) hx hb dX10_isBesideMet_116 (by decide) (fun c_8 => ?_) (fun c_8 => ?_)
          · replace c_8 := bI_f c_8
            refine lv_iconst (v := 0) hx hb dX10_isBesideMet_123 (by decide) ?_
            refine lv_istore_n (lv' := [(3, .int 0), (0, .ref (a 0)), (1, .int (nI x0)), (2, .int (bI x1))]) hx hb dX10_isBesideMet_124 rfl hl (by decide) rfl (fun ls hl => ?_)
            exact lp125 false   _ _ hP hD hS ls (lv_sub hl [1, 2, 3, 0] rfl)
          · replace c_8 := bI_t c_8
            refine lv_iconst (v := 1) hx hb dX10_isBesideMet_119 (by decide) ?_
            refine lv_goto (tgt := 124) hx hb dX10_isBesideMet_120 (by decide) ?_
            refine lv_istore_n (lv' := [(3, .int 1), (0, .ref (a 0)), (1, .int (nI x0)), (2, .int (bI x1))]) hx hb dX10_isBesideMet_124 rfl hl (by decide) rfl (fun ls hl => ?_)
            exact lp125 true   _ _ hP hD hS ls (lv_sub hl [1, 2, 3, 0] rfl)
  have lp38 : ∀ (v3_38 : Bool), ∀ (H : Heap) (locs : List Loc), va_P D vwCl (MW cy a J I R RJ) H → va_D A (MW cy a J I R RJ) → va_S A s.heap H locs → ∀ (ls : Array Slot), lv_has ls 4 [(0, .ref (a 0)), (1, .int (nI x0)), (2, .int (bI x1)), (3, .int (bI v3_38))] → W p l e (headSpec wsX10_isBesideMet ({ frames := 3, cells := 0, slots := 0, locals := 68 })).room s m ([.ref (a 0), .int (nI x0), .int (bI x1)] : List Value).toArray below meth c H locs 0 0 (MQ below (va_Qi (fun r (u : MS) => ∃ (b : Bool), (r = bI b) ∧ u = (J, I, R, RJ)) (BW D A (MWu cy a)) A) ([.ref (a 0), .int (nI x0), .int (bI x1)] : List Value).toArray s 0 0 A) (F0 m 38 ls []) := by
    intro v3_38  H locs hP hD hS ls hl
    refine lv_iload_n hx hb dX10_isBesideMet_38 rfl (lv_at hl 3 rfl) ?_
    refine lv_if_ne (tgt := 76) hx hb dX10_isBesideMet_39 (by decide) (fun c_9 => ?_) (fun c_9 => ?_)
    · replace c_9 := bI_t c_9
      refine lv_iconst (v := 1) hx hb dX10_isBesideMet_76 (by decide) ?_
      refine lv_goto (tgt := 81) hx hb dX10_isBesideMet_77 (by decide) ?_
      refine lv_istore_n (lv' := [(3, .int 1), (0, .ref (a 0)), (1, .int (nI x0)), (2, .int (bI x1))]) hx hb dX10_isBesideMet_81 rfl hl (by decide) rfl (fun ls hl => ?_)
      exact lp82 true   _ _ hP hD hS ls (lv_sub hl [1, 2, 3, 0] rfl)
    · replace c_9 := bI_f c_9
      refine lv_iload_n hx hb dX10_isBesideMet_42 rfl (lv_at hl 1 rfl) ?_
      refine lv_bipush (v := 10) hx hb dX10_isBesideMet_43 (by decide) ?_
      refine lv_irem hx hb dX10_isBesideMet_45 (by decide) ?_
      refine lv_bipush (v := 9) hx hb dX10_isBesideMet_46 (by decide) ?_
      refine lv_icmp_ge (tgt := 80) hx hb dX10_isBesideMet_48 (by decide) (fun c_10 => ?_) (fun c_10 => ?_)
      · refine lv_iconst (v := 0) hx hb dX10_isBesideMet_80 (by decide) ?_
        refine lv_istore_n (lv' := [(3, .int 0), (0, .ref (a 0)), (1, .int (nI x0)), (2, .int (bI x1))]) hx hb dX10_isBesideMet_81 rfl hl (by decide) rfl (fun ls hl => ?_)
        exact lp82 false   _ _ hP hD hS ls (lv_sub hl [1, 2, 3, 0] rfl)
      · refine lv_aload_n hx hb dX10_isBesideMet_51 rfl (lv_at hl 0 rfl) ?_
        refine va_get (D := D) (ci := 9) (v := .ref (a 11)) (C := RX10) (T := TX10) (N := 30) hx hb hts hi10 hown hK hP 0 rfl rfl 17 (by decide) hw0 (fun _ h9 => h9) rfl dX10_isBesideMet_52 ?_
        refine lv_iload_n hx hb dX10_isBesideMet_55 rfl (lv_at hl 1 rfl) ?_
        refine lv_iconst (v := 1) hx hb dX10_isBesideMet_56 (by decide) ?_
        refine lv_iadd hx hb dX10_isBesideMet_57 ?_
        refine va_zald hx hb hK hP 11 2 rfl rfl (bm2 ⟨x0, hx0⟩ c_10) dX10_isBesideMet_58 ?_
        refine lv_if_eq (tgt := 80) hx hb dX10_isBesideMet_59 (by decide) (fun c_11 => ?_) (fun c_11 => ?_)
        · refine lv_iconst (v := 0) hx hb dX10_isBesideMet_80 (by decide) ?_
          refine lv_istore_n (lv' := [(3, .int 0), (0, .ref (a 0)), (1, .int (nI x0)), (2, .int (bI x1))]) hx hb dX10_isBesideMet_81 rfl hl (by decide) rfl (fun ls hl => ?_)
          exact lp82 false   _ _ hP hD hS ls (lv_sub hl [1, 2, 3, 0] rfl)
        · refine lv_aload_n hx hb dX10_isBesideMet_62 rfl (lv_at hl 0 rfl) ?_
          refine va_get (D := D) (ci := 9) (v := .long (J 0)) (C := RX10) (T := TX10) (N := 30) hx hb hts hi10 hown hK hP 0 rfl rfl 0 (by decide) hw1 (fun _ h9 => h9) rfl dX10_isBesideMet_63 ?_
          refine lv_iload_n hx hb dX10_isBesideMet_66 rfl (lv_at hl 1 rfl) ?_
          refine lv_iconst (v := 1) hx hb dX10_isBesideMet_67 (by decide) ?_
          refine lv_iadd hx hb dX10_isBesideMet_68 ?_
          refine lv_iload_n hx hb dX10_isBesideMet_69 rfl (lv_at hl 2 rfl) ?_
          refine kS_i (As := [.long (J 0), .int ((nI x0) + 1), .int (bI x1)]) (rest := []) ⟨hx, hb, hml, hown, hts⟩ (c_X10_isOf l (J 0) ((nI x0) + 1) x1) (va_cwS 3 hts gX10_isBesideMet_X10_isOf rfl rfl rfl (by decide +kernel) ⟨Nat.le_of_ble_eq_true rfl, Nat.le_of_ble_eq_true rfl⟩) rfl hl.1 rfl (Nat.le_of_ble_eq_true rfl) dX10_isBesideMet_70 ⟨Nat.le_of_ble_eq_true rfl, Nat.le_of_ble_eq_true rfl⟩ ?_
          refine lv_if_eq (tgt := 80) hx hb dX10_isBesideMet_73 (by decide) (fun c_12 => ?_) (fun c_12 => ?_)
          · replace c_12 := bI_f c_12
            refine lv_iconst (v := 0) hx hb dX10_isBesideMet_80 (by decide) ?_
            refine lv_istore_n (lv' := [(3, .int 0), (0, .ref (a 0)), (1, .int (nI x0)), (2, .int (bI x1))]) hx hb dX10_isBesideMet_81 rfl hl (by decide) rfl (fun ls hl => ?_)
            exact lp82 false   _ _ hP hD hS ls (lv_sub hl [1, 2, 3, 0] rfl)
          · replace c_12 := bI_t c_12
            refine lv_iconst (v := 1) hx hb dX10_isBesideMet_76 (by decide) ?_
            refine lv_goto (tgt := 81) hx hb dX10_isBesideMet_77 (by decide) ?_
            refine lv_istore_n (lv' := [(3, .int 1), (0, .ref (a 0)), (1, .int (nI x0)), (2, .int (bI x1))]) hx hb dX10_isBesideMet_81 rfl hl (by decide) rfl (fun ls hl => ?_)
            exact lp82 true   _ _ hP hD hS ls (lv_sub hl [1, 2, 3, 0] rfl)
  refine lv_iload_n hx hb dX10_isBesideMet_0 rfl (lv_at hl 1 rfl) ?_
  refine lv_bipush (v := 10) hx hb dX10_isBesideMet_1 (by decide) ?_
  refine lv_irem hx hb dX10_isBesideMet_3 (by decide) ?_
  refine lv_if_le (tgt := 36) hx hb dX10_isBesideMet_4 (by decide) (fun c_13 => ?_) (fun c_13 => ?_)
  · refine lv_iconst (v := 0) hx hb dX10_isBesideMet_36 (by decide) ?_
    refine lv_istore_n (lv' := [(3, .int 0), (0, .ref (a 0)), (1, .int (nI x0)), (2, .int (bI x1))]) hx hb dX10_isBesideMet_37 rfl hl (by decide) rfl (fun ls hl => ?_)
    exact lp38 false   _ _ hP hD hS ls (lv_sub hl [1, 2, 3, 0] rfl)
  · refine lv_aload_n hx hb dX10_isBesideMet_7 rfl (lv_at hl 0 rfl) ?_
    refine va_get (D := D) (ci := 9) (v := .ref (a 11)) (C := RX10) (T := TX10) (N := 30) hx hb hts hi10 hown hK hP 0 rfl rfl 17 (by decide) hw0 (fun _ h9 => h9) rfl dX10_isBesideMet_8 ?_
    refine lv_iload_n hx hb dX10_isBesideMet_11 rfl (lv_at hl 1 rfl) ?_
    refine lv_iconst (v := 1) hx hb dX10_isBesideMet_12 (by decide) ?_
    refine lv_isub hx hb dX10_isBesideMet_13 ?_
    refine va_zald hx hb hK hP 11 2 rfl rfl (bm1 ⟨x0, hx0⟩ c_13) dX10_isBesideMet_14 ?_
    refine lv_if_eq (tgt := 36) hx hb dX10_isBesideMet_15 (by decide) (fun c_14 => ?_) (fun c_14 => ?_)
    · refine lv_iconst (v := 0) hx hb dX10_isBesideMet_36 (by decide) ?_
      refine lv_istore_n (lv' := [(3, .int 0), (0, .ref (a 0)), (1, .int (nI x0)), (2, .int (bI x1))]) hx hb dX10_isBesideMet_37 rfl hl (by decide) rfl (fun ls hl => ?_)
      exact lp38 false   _ _ hP hD hS ls (lv_sub hl [1, 2, 3, 0] rfl)
    · refine lv_aload_n hx hb dX10_isBesideMet_18 rfl (lv_at hl 0 rfl) ?_
      refine va_get (D := D) (ci := 9) (v := .long (J 0)) (C := RX10) (T := TX10) (N := 30) hx hb hts hi10 hown hK hP 0 rfl rfl 0 (by decide) hw1 (fun _ h9 => h9) rfl dX10_isBesideMet_19 ?_
      refine lv_iload_n hx hb dX10_isBesideMet_22 rfl (lv_at hl 1 rfl) ?_
      refine lv_iconst (v := 1) hx hb dX10_isBesideMet_23 (by decide) ?_
      refine lv_isub hx hb dX10_isBesideMet_24 ?_
      refine lv_iload_n hx hb dX10_isBesideMet_25 rfl (lv_at hl 2 rfl) ?_
      refine kS_i (As := [.long (J 0), .int ((nI x0) - 1), .int (bI x1)]) (rest := []) ⟨hx, hb, hml, hown, hts⟩ (c_X10_isOf l (J 0) ((nI x0) - 1) x1) (va_cwS 3 hts gX10_isBesideMet_X10_isOf rfl rfl rfl (by decide +kernel) ⟨Nat.le_of_ble_eq_true rfl, Nat.le_of_ble_eq_true rfl⟩) rfl hl.1 rfl (Nat.le_of_ble_eq_true rfl) dX10_isBesideMet_26 ⟨Nat.le_of_ble_eq_true rfl, Nat.le_of_ble_eq_true rfl⟩ ?_
      refine lv_if_eq (tgt := 36) hx hb dX10_isBesideMet_29 (by decide) (fun c_15 => ?_) (fun c_15 => ?_)
      · replace c_15 := bI_f c_15
        refine lv_iconst (v := 0) hx hb dX10_isBesideMet_36 (by decide) ?_
        refine lv_istore_n (lv' := [(3, .int 0), (0, .ref (a 0)), (1, .int (nI x0)), (2, .int (bI x1))]) hx hb dX10_isBesideMet_37 rfl hl (by decide) rfl (fun ls hl => ?_)
        exact lp38 false   _ _ hP hD hS ls (lv_sub hl [1, 2, 3, 0] rfl)
      · replace c_15 := bI_t c_15
        refine lv_iconst (v := 1) hx hb dX10_isBesideMet_32 (by decide) ?_
        refine lv_goto (tgt := 37) hx hb dX10_isBesideMet_33 (by decide) ?_
        refine lv_istore_n (lv' := [(3, .int 1), (0, .ref (a 0)), (1, .int (nI x0)), (2, .int (bI x1))]) hx hb dX10_isBesideMet_37 rfl hl (by decide) rfl (fun ls hl => ?_)
        exact lp38 true   _ _ hP hD hS ls (lv_sub hl [1, 2, 3, 0] rfl)
theorem dX10_pieces_79 : decode cX10_pieces 79 = .ok (.iload 5, 2) := by decide +kernel
theorem dX10_pieces_81 : decode cX10_pieces 81 = .ok (.bipush 100, 2) := by decide +kernel
theorem dX10_pieces_83 : decode cX10_pieces 83 = .ok (.if_icmp .ge 53, 3) := by decide +kernel
theorem dX10_pieces_136 : decode cX10_pieces 136 = .ok (.goto (-68), 3) := by decide +kernel
theorem dX10_pieces_86 : decode cX10_pieces 86 = .ok (.aload_n 0, 1) := by decide +kernel
theorem dX10_pieces_87 : decode cX10_pieces 87 = .ok (.getfield 42, 3) := by decide +kernel
theorem dX10_pieces_90 : decode cX10_pieces 90 = .ok (.iload 5, 2) := by decide +kernel
theorem dX10_pieces_92 : decode cX10_pieces 92 = .ok (.baload, 1) := by decide +kernel
theorem dX10_pieces_93 : decode cX10_pieces 93 = .ok (.ifCond .ne 37, 3) := by decide +kernel
theorem dX10_pieces_130 : decode cX10_pieces 130 = .ok (.iinc 5 1, 3) := by decide +kernel
theorem dX10_pieces_133 : decode cX10_pieces 133 = .ok (.goto (-54), 3) := by decide +kernel
theorem dX10_pieces_96 : decode cX10_pieces 96 = .ok (.aload_n 0, 1) := by decide +kernel
theorem dX10_pieces_97 : decode cX10_pieces 97 = .ok (.getfield 81, 3) := by decide +kernel
theorem dX10_pieces_100 : decode cX10_pieces 100 = .ok (.iload 5, 2) := by decide +kernel
theorem dX10_pieces_102 : decode cX10_pieces 102 = .ok (.iload_n 1, 1) := by decide +kernel
set_option maxRecDepth 20000 in
theorem ggX10_pieces_X10_isOf : GoodIn wsX10_pieces wsX10_isOf := goodIn_r _ [6, 7, 8, 5, 9, 10, 11, 12, 13, 14, 15] rfl (by decide +kernel)
set_option maxRecDepth 20000 in
theorem gX10_pieces_X10_isOf : GoodIn wsX10_pieces (va_wsS RX10 150 yX10_isOf wsX10_isOf) := goodIn_app (goodIn_r _ [3, 4, 5] rfl (by decide +kernel)) ggX10_pieces_X10_isOf
theorem dX10_pieces_103 : decode cX10_pieces 103 = .ok (.invokestatic 150, 3) := by decide +kernel
theorem dX10_pieces_106 : decode cX10_pieces 106 = .ok (.ifCond .eq 24, 3) := by decide +kernel
theorem dX10_pieces_109 : decode cX10_pieces 109 = .ok (.aload_n 0, 1) := by decide +kernel
theorem dX10_pieces_110 : decode cX10_pieces 110 = .ok (.iload 5, 2) := by decide +kernel
theorem dX10_pieces_112 : decode cX10_pieces 112 = .ok (.iload_n 1, 1) := by decide +kernel
set_option maxRecDepth 20000 in
theorem ggX10_pieces_X10_isBesideMet : GoodIn wsX10_pieces wsX10_isBesideMet := goodIn_r _ [19, 1, 2, 3, 4, 5, 6, 7, 8, 9, 10, 11, 12, 13, 14, 15, 20, 21, 22, 23, 24, 25, 26, 27, 28, 29, 30, 31, 32, 33, 34, 35, 36, 37, 38, 39, 40, 41, 42, 43, 44, 45, 46, 47, 48, 49] rfl (by decide +kernel)
set_option maxRecDepth 20000 in
theorem gX10_pieces_X10_isBesideMet : GoodIn wsX10_pieces (wsV RX10 153 RX10 yX10_isBesideMet wsX10_isBesideMet) := goodIn_app (goodIn_r _ [16, 17, 18, 5] rfl (by decide +kernel)) ggX10_pieces_X10_isBesideMet
theorem dX10_pieces_113 : decode cX10_pieces 113 = .ok (.invokevirtual 153, 3) := by decide +kernel
theorem dX10_pieces_116 : decode cX10_pieces 116 = .ok (.ifCond .eq 14, 3) := by decide +kernel
theorem dX10_pieces_119 : decode cX10_pieces 119 = .ok (.aload_n 0, 1) := by decide +kernel
theorem dX10_pieces_120 : decode cX10_pieces 120 = .ok (.getfield 42, 3) := by decide +kernel
theorem dX10_pieces_123 : decode cX10_pieces 123 = .ok (.iload 5, 2) := by decide +kernel
theorem dX10_pieces_125 : decode cX10_pieces 125 = .ok (.iconst 1, 1) := by decide +kernel
theorem dX10_pieces_126 : decode cX10_pieces 126 = .ok (.bastore, 1) := by decide +kernel
theorem dX10_pieces_127 : decode cX10_pieces 127 = .ok (.iconst 1, 1) := by decide +kernel
theorem dX10_pieces_128 : decode cX10_pieces 128 = .ok (.istore 4, 2) := by decide +kernel
theorem dX10_pieces_68 : decode cX10_pieces 68 = .ok (.iload 4, 2) := by decide +kernel
theorem dX10_pieces_70 : decode cX10_pieces 70 = .ok (.ifCond .eq 69, 3) := by decide +kernel
theorem dX10_pieces_139 : decode cX10_pieces 139 = .ok (.iinc 3 1, 3) := by decide +kernel
theorem dX10_pieces_142 : decode cX10_pieces 142 = .ok (.goto (-117), 3) := by decide +kernel
theorem dX10_pieces_73 : decode cX10_pieces 73 = .ok (.iconst 0, 1) := by decide +kernel
theorem dX10_pieces_74 : decode cX10_pieces 74 = .ok (.istore 4, 2) := by decide +kernel
theorem dX10_pieces_76 : decode cX10_pieces 76 = .ok (.iconst 0, 1) := by decide +kernel
theorem dX10_pieces_77 : decode cX10_pieces 77 = .ok (.istore 5, 2) := by decide +kernel
theorem dX10_pieces_25 : decode cX10_pieces 25 = .ok (.iload_n 3, 1) := by decide +kernel
theorem dX10_pieces_26 : decode cX10_pieces 26 = .ok (.bipush 100, 2) := by decide +kernel
theorem dX10_pieces_28 : decode cX10_pieces 28 = .ok (.if_icmp .ge 117, 3) := by decide +kernel
theorem dX10_pieces_145 : decode cX10_pieces 145 = .ok (.iload_n 2, 1) := by decide +kernel
theorem dX10_pieces_146 : decode cX10_pieces 146 = .ok (.ireturn, 1) := by decide +kernel
theorem dX10_pieces_31 : decode cX10_pieces 31 = .ok (.aload_n 0, 1) := by decide +kernel
theorem dX10_pieces_32 : decode cX10_pieces 32 = .ok (.getfield 42, 3) := by decide +kernel
theorem dX10_pieces_35 : decode cX10_pieces 35 = .ok (.iload_n 3, 1) := by decide +kernel
theorem dX10_pieces_36 : decode cX10_pieces 36 = .ok (.baload, 1) := by decide +kernel
theorem dX10_pieces_37 : decode cX10_pieces 37 = .ok (.ifCond .ne 102, 3) := by decide +kernel
theorem dX10_pieces_40 : decode cX10_pieces 40 = .ok (.aload_n 0, 1) := by decide +kernel
theorem dX10_pieces_41 : decode cX10_pieces 41 = .ok (.getfield 81, 3) := by decide +kernel
theorem dX10_pieces_44 : decode cX10_pieces 44 = .ok (.iload_n 3, 1) := by decide +kernel
theorem dX10_pieces_45 : decode cX10_pieces 45 = .ok (.iload_n 1, 1) := by decide +kernel
theorem dX10_pieces_46 : decode cX10_pieces 46 = .ok (.invokestatic 150, 3) := by decide +kernel
theorem dX10_pieces_49 : decode cX10_pieces 49 = .ok (.ifCond .ne 6, 3) := by decide +kernel
theorem dX10_pieces_55 : decode cX10_pieces 55 = .ok (.iinc 2 1, 3) := by decide +kernel
theorem dX10_pieces_58 : decode cX10_pieces 58 = .ok (.aload_n 0, 1) := by decide +kernel
theorem dX10_pieces_59 : decode cX10_pieces 59 = .ok (.getfield 42, 3) := by decide +kernel
theorem dX10_pieces_62 : decode cX10_pieces 62 = .ok (.iload_n 3, 1) := by decide +kernel
theorem dX10_pieces_63 : decode cX10_pieces 63 = .ok (.iconst 1, 1) := by decide +kernel
theorem dX10_pieces_64 : decode cX10_pieces 64 = .ok (.bastore, 1) := by decide +kernel
theorem dX10_pieces_65 : decode cX10_pieces 65 = .ok (.iconst 1, 1) := by decide +kernel
theorem dX10_pieces_66 : decode cX10_pieces 66 = .ok (.istore 4, 2) := by decide +kernel
theorem dX10_pieces_52 : decode cX10_pieces 52 = .ok (.goto 87, 3) := by decide +kernel
theorem dX10_pieces_4 : decode cX10_pieces 4 = .ok (.iload_n 3, 1) := by decide +kernel
theorem dX10_pieces_5 : decode cX10_pieces 5 = .ok (.bipush 100, 2) := by decide +kernel
theorem dX10_pieces_7 : decode cX10_pieces 7 = .ok (.if_icmp .ge 16, 3) := by decide +kernel
theorem dX10_pieces_23 : decode cX10_pieces 23 = .ok (.iconst 0, 1) := by decide +kernel
theorem dX10_pieces_24 : decode cX10_pieces 24 = .ok (.istore_n 3, 1) := by decide +kernel
theorem dX10_pieces_10 : decode cX10_pieces 10 = .ok (.aload_n 0, 1) := by decide +kernel
theorem dX10_pieces_11 : decode cX10_pieces 11 = .ok (.getfield 42, 3) := by decide +kernel
theorem dX10_pieces_14 : decode cX10_pieces 14 = .ok (.iload_n 3, 1) := by decide +kernel
theorem dX10_pieces_15 : decode cX10_pieces 15 = .ok (.iconst 0, 1) := by decide +kernel
theorem dX10_pieces_16 : decode cX10_pieces 16 = .ok (.bastore, 1) := by decide +kernel
theorem dX10_pieces_17 : decode cX10_pieces 17 = .ok (.iinc 3 1, 3) := by decide +kernel
theorem dX10_pieces_20 : decode cX10_pieces 20 = .ok (.goto (-16), 3) := by decide +kernel
theorem dX10_pieces_0 : decode cX10_pieces 0 = .ok (.iconst 0, 1) := by decide +kernel
theorem dX10_pieces_1 : decode cX10_pieces 1 = .ok (.istore_n 2, 1) := by decide +kernel
theorem dX10_pieces_2 : decode cX10_pieces 2 = .ok (.iconst 0, 1) := by decide +kernel
theorem dX10_pieces_3 : decode cX10_pieces 3 = .ok (.istore_n 3, 1) := by decide +kernel
set_option maxRecDepth 20000 in
theorem ihX10_pieces_10 : ∀ w ∈ u_ws RX10 TX10 30, w ∈ wsX10_pieces := fun _ h => List.mem_cons_of_mem _ (List.mem_append_right _ h)
set_option maxHeartbeats 4000000 in
set_option maxRecDepth 100000 in
theorem t_X10_pieces (l : Launch) (D : va_G) (cy : Nat → ClassId) (a : Nat → Nat) (sz : Nat) (J : Nat → Int64) (I : Nat → Int32) (R : Nat → Nat → Int32) (RJ : Nat → Nat → Int64) (x0 : Bool) : Met l yX10_pieces wsX10_pieces ({ frames := 4, cells := 0, slots := 0, locals := 91 }) (va_Pc [.ref (a 0), .int (bI x0)] (PW D cy sz (MW cy a J I R RJ))) (va_Qi (fun r (u : MS) => ∃ (w0 : Nat → Int32), (True) ∧ u = (J, I, (va_up R 11 w0), RJ)) (BW D (va_A (MW cy a J I R RJ) sz) (MWu cy a)) (va_A (MW cy a J I R RJ) sz)) 0 0 (va_A (MW cy a J I R RJ) sz) := by
  refine Met.ofW (cc := cX10_pieces) (maxL := 6) (ret := (some .int)) (by decide) rfl ?_
  intro p e s m args below meth c s₁ B hml hv
  obtain ⟨rfl, rfl, hP, hK, hN, hD0⟩ := hv
  have hx := B.exec
  have hb := B.bytes
  have hr := B.returns
  have hts := atoms_spec (ws := wsX10_pieces) B.pre
  have hown : s.vm.findClass RX10 = some m.cls := findClass_of_methodNamed B.named
  have hlocks := B.notSynchronized
  have hw0 := hts (.fieldLink RX10 42 "ParquetLayerModel" "met" "[Z") (by decide +kernel)
  have hw1 := hts (.fieldLink RX10 81 "ParquetLayerModel" "floor" "J") (by decide +kernel)
  have hi10 := ihX10_pieces_10
  have hD := hD0.self (sz := s.heap.size)
  generalize hAe : va_A (MW cy a J I R RJ) s.heap.size = A at hD ⊢
  have hA : ∀ q : Nat, s.heap.size ≤ q → A q := fun q h => by rw [← hAe]; exact Or.inr h
  have hS : va_S A s.heap s.heap [] := va_S.rf
  have hl := lv_entry ([.ref (a 0), .int (bI x0)]) (n := 6) (Nat.le_of_ble_eq_true rfl)
  rw [lg_entry_eq]
  generalize (lg_sl ([.ref (a 0), .int (bI x0)]) ++ List.replicate (6 - (lg_sl ([.ref (a 0), .int (bI x0)])).length) Slot.unset).toArray = ls at hl ⊢
  have hl : lv_has ls 6 [(0, .ref (a 0)), (1, .int (bI x0))] := hl
  have hP : va_P D vwCl (MW cy a J I (va_up R 11 (R 11)) RJ) s.heap := hP
  have hD : va_D A (MW cy a J I (va_up R 11 (R 11)) RJ) := hD
  have lp25 : ∀ (n25 : Nat), ∀ (p9 : Nat) (v2_25 : Int32) (m0_25 : Nat → Int32), (p9 ≤ 100) → (100 - p9) < n25 → ∀ (H : Heap) (locs : List Loc), va_P D vwCl (MW cy a J I (va_up R 11 m0_25) RJ) H → va_D A (MW cy a J I (va_up R 11 m0_25) RJ) → va_S A s.heap H locs → ∀ (ls : Array Slot), lv_has ls 6 [(0, .ref (a 0)), (1, .int (bI x0)), (2, .int v2_25), (3, .int (nI p9))] → W p l e (headSpec wsX10_pieces ({ frames := 4, cells := 0, slots := 0, locals := 91 })).room s m ([.ref (a 0), .int (bI x0)] : List Value).toArray below meth c H locs 0 0 (MQ below (va_Qi (fun r (u : MS) => ∃ (w0 : Nat → Int32), (True) ∧ u = (J, I, (va_up R 11 w0), RJ)) (BW D A (MWu cy a)) A) ([.ref (a 0), .int (bI x0)] : List Value).toArray s 0 0 A) (F0 m 25 ls []) := by
    intro n25
    induction n25 with
    | zero => intro p9 v2_25 m0_25 hp9 hn; exact absurd hn (Nat.not_lt_zero _)
    | succ n25 ih25 =>
      intro p9 v2_25 m0_25 hp9 hn25 H locs hP hD hS ls hl
      have lp68 : ∀ (n68 : Nat), ∀ (v2_68 : Int32) (v4_68 : Bool) (m0_68 : Nat → Int32), (p9 < 100) → (cntz m0_68 100 + bN v4_68) < n68 → ∀ (H : Heap) (locs : List Loc), va_P D vwCl (MW cy a J I (va_up R 11 m0_68) RJ) H → va_D A (MW cy a J I (va_up R 11 m0_68) RJ) → va_S A s.heap H locs → ∀ (ls : Array Slot), lv_has ls 6 [(0, .ref (a 0)), (1, .int (bI x0)), (2, .int v2_68), (3, .int (nI p9)), (4, .int (bI v4_68))] → W p l e (headSpec wsX10_pieces ({ frames := 4, cells := 0, slots := 0, locals := 91 })).room s m ([.ref (a 0), .int (bI x0)] : List Value).toArray below meth c H locs 0 0 (MQ below (va_Qi (fun r (u : MS) => ∃ (w0 : Nat → Int32), (True) ∧ u = (J, I, (va_up R 11 w0), RJ)) (BW D A (MWu cy a)) A) ([.ref (a 0), .int (bI x0)] : List Value).toArray s 0 0 A) (F0 m 68 ls []) := by
        intro n68
        induction n68 with
        | zero => intro v2_68 v4_68 m0_68 hlp hn; exact absurd hn (Nat.not_lt_zero _)
        | succ n68 ih68 =>
          intro v2_68 v4_68 m0_68 hlp hn68 H locs hP hD hS ls hl
          have lp79 : ∀ (n79 : Nat), ∀ (q9 : Nat) (v4_79 : Bool) (m0_79 : Nat → Int32), (q9 ≤ 100) → (v4_68 = true) → (cntz m0_79 100 + bN v4_79 ≤ cntz m0_68 100) → (100 - q9) < n79 → ∀ (H : Heap) (locs : List Loc), va_P D vwCl (MW cy a J I (va_up R 11 m0_79) RJ) H → va_D A (MW cy a J I (va_up R 11 m0_79) RJ) → va_S A s.heap H locs → ∀ (ls : Array Slot), lv_has ls 6 [(0, .ref (a 0)), (1, .int (bI x0)), (2, .int v2_68), (3, .int (nI p9)), (4, .int (bI v4_79)), (5, .int (nI q9))] → W p l e (headSpec wsX10_pieces ({ frames := 4, cells := 0, slots := 0, locals := 91 })).room s m ([.ref (a 0), .int (bI x0)] : List Value).toArray below meth c H locs 0 0 (MQ below (va_Qi (fun r (u : MS) => ∃ (w0 : Nat → Int32), (True) ∧ u = (J, I, (va_up R 11 w0), RJ)) (BW D A (MWu cy a)) A) ([.ref (a 0), .int (bI x0)] : List Value).toArray s 0 0 A) (F0 m 79 ls []) := by
            intro n79
            induction n79 with
            | zero => intro q9 v4_79 m0_79 hq9 hm hc hn; exact absurd hn (Nat.not_lt_zero _)
            | succ n79 ih79 =>
              intro q9 v4_79 m0_79 hq9 hm hc hn79 H locs hP hD hS ls hl
              refine lv_iload hx hb dX10_pieces_79 (lv_at hl 5 rfl) ?_
              refine lv_bipush (v := 100) hx hb dX10_pieces_81 (by decide) ?_
              refine lv_icmp_ge (tgt := 136) hx hb dX10_pieces_83 (by decide) (fun c_1 => ?_) (fun c_1 => ?_)
              · refine lv_goto (tgt := 68) hx hb dX10_pieces_136 (by decide) ?_
                exact ih68 v2_68 v4_79 m0_79 hlp (mz hc hn68 (by rw [hm]; rfl)) _ _ hP hD hS ls (lv_sub hl [0, 1, 2, 3, 4] rfl)
              · have hlt_q9 := ctr_lt (N := 100) (by decide) hq9 c_1
                refine lv_aload_n hx hb dX10_pieces_86 rfl (lv_at hl 0 rfl) ?_
                refine va_get (D := D) (ci := 9) (v := .ref (a 11)) (C := RX10) (T := TX10) (N := 30) hx hb hts hi10 hown hK hP 0 rfl rfl 17 (by decide) hw0 (fun _ h9 => h9) rfl dX10_pieces_87 ?_
                refine lv_iload hx hb dX10_pieces_90 (lv_at hl 5 rfl) ?_
                refine va_zald hx hb hK hP 11 2 rfl rfl (vp_in_nI hlt_q9 (by decide)) dX10_pieces_92 ?_
                refine lv_if_ne (tgt := 130) hx hb dX10_pieces_93 (by decide) (fun c_2 => ?_) (fun c_2 => ?_)
                · refine lv_iinc (v := nI (q9 + 1)) (lv' := [(5, .int (nI (q9 + 1))), (0, .ref (a 0)), (1, .int (bI x0)), (2, .int v2_68), (3, .int (nI p9)), (4, .int (bI v4_79))]) hx hb dX10_pieces_130 hl (k := 5) rfl (nI_1 _) (by decide) rfl (fun ls hl => ?_)
                  refine lv_goto (tgt := 79) hx hb dX10_pieces_133 (by decide) ?_
                  exact ih79 (q9 + 1) v4_79 m0_79 hlt_q9 hm hc (lt_dec hlt_q9 hn79) _ _ hP hD hS ls (lv_sub hl [1, 2, 3, 4, 5, 0] rfl)
                · refine lv_aload_n hx hb dX10_pieces_96 rfl (lv_at hl 0 rfl) ?_
                  refine va_get (D := D) (ci := 9) (v := .long (J 0)) (C := RX10) (T := TX10) (N := 30) hx hb hts hi10 hown hK hP 0 rfl rfl 0 (by decide) hw1 (fun _ h9 => h9) rfl dX10_pieces_97 ?_
                  refine lv_iload hx hb dX10_pieces_100 (lv_at hl 5 rfl) ?_
                  refine lv_iload_n hx hb dX10_pieces_102 rfl (lv_at hl 1 rfl) ?_
                  refine kS_i (As := [.long (J 0), .int (nI q9), .int (bI x0)]) (rest := []) ⟨hx, hb, hml, hown, hts⟩ (c_X10_isOf l (J 0) (nI q9) x0) (va_cwS 3 hts gX10_pieces_X10_isOf rfl rfl rfl (by decide +kernel) ⟨Nat.le_of_ble_eq_true rfl, Nat.le_of_ble_eq_true rfl⟩) rfl hl.1 rfl (Nat.le_of_ble_eq_true rfl) dX10_pieces_103 ⟨Nat.le_of_ble_eq_true rfl, Nat.le_of_ble_eq_true rfl⟩ ?_
                  refine lv_if_eq (tgt := 130) hx hb dX10_pieces_106 (by decide) (fun c_3 => ?_) (fun c_3 => ?_)
                  · replace c_3 := bI_f c_3
                    refine lv_iinc (v := nI (q9 + 1)) (lv' := [(5, .int (nI (q9 + 1))), (0, .ref (a 0)), (1, .int (bI x0)), (2, .int v2_68), (3, .int (nI p9)), (4, .int (bI v4_79))]) hx hb dX10_pieces_130 hl (k := 5) rfl (nI_1 _) (by decide) rfl (fun ls hl => ?_)
                    refine lv_goto (tgt := 79) hx hb dX10_pieces_133 (by decide) ?_
                    exact ih79 (q9 + 1) v4_79 m0_79 hlt_q9 hm hc (lt_dec hlt_q9 hn79) _ _ hP hD hS ls (lv_sub hl [1, 2, 3, 4, 5, 0] rfl)
                  · replace c_3 := bI_t c_3
                    refine lv_aload_n hx hb dX10_pieces_109 rfl (lv_at hl 0 rfl) ?_
                    refine lv_iload hx hb dX10_pieces_110 (lv_at hl 5 rfl) ?_
                    refine lv_iload_n hx hb dX10_pieces_112 rfl (lv_at hl 1 rfl) ?_
                    refine kM_i (As := [.int (nI q9), .int (bI x0)]) (rest := []) (q0 := 0) ⟨hx, hb, hml, hown, hts⟩ (t_X10_isBesideMet l D cy a _ J I (va_up R 11 m0_79) RJ q9 x0 hlt_q9 ) (cwV 2 hts gX10_pieces_X10_isBesideMet rfl rfl rfl (by decide +kernel) ⟨Nat.le_of_ble_eq_true rfl, Nat.le_of_ble_eq_true rfl⟩) hK hN hP hD hS hA rfl rfl rfl hl.1 rfl (Nat.le_of_ble_eq_true rfl) dX10_pieces_113 ⟨Nat.le_of_ble_eq_true rfl, Nat.le_of_ble_eq_true rfl⟩ (fun r_4 u H locs hw hP hD hS => ?_)
                    obtain ⟨zb_5, rfl, rfl⟩ := hw
                    have hP : va_P D vwCl (MW cy a J I (va_up R 11 m0_79) RJ) H := hP
                    have hD : va_D A (MW cy a J I (va_up R 11 m0_79) RJ) := hD
                    refine lv_if_eq (tgt := 130) hx hb dX10_pieces_116 (by decide) (fun c_6 => ?_) (fun c_6 => ?_)
                    · replace c_6 := bI_f c_6
                      refine lv_iinc (v := nI (q9 + 1)) (lv' := [(5, .int (nI (q9 + 1))), (0, .ref (a 0)), (1, .int (bI x0)), (2, .int v2_68), (3, .int (nI p9)), (4, .int (bI v4_79))]) hx hb dX10_pieces_130 hl (k := 5) rfl (nI_1 _) (by decide) rfl (fun ls hl => ?_)
                      refine lv_goto (tgt := 79) hx hb dX10_pieces_133 (by decide) ?_
                      exact ih79 (q9 + 1) v4_79 m0_79 hlt_q9 hm hc (lt_dec hlt_q9 hn79) _ _ hP hD hS ls (lv_sub hl [1, 2, 3, 4, 5, 0] rfl)
                    · replace c_6 := bI_t c_6
                      refine lv_aload_n hx hb dX10_pieces_119 rfl (lv_at hl 0 rfl) ?_
                      refine va_get (D := D) (ci := 9) (v := .ref (a 11)) (C := RX10) (T := TX10) (N := 30) hx hb hts hi10 hown hK hP 0 rfl rfl 17 (by decide) hw0 (fun _ h9 => h9) rfl dX10_pieces_120 ?_
                      refine lv_iload hx hb dX10_pieces_123 (lv_at hl 5 rfl) ?_
                      refine lv_iconst (v := 1) hx hb dX10_pieces_125 (by decide) ?_
                      refine va_zast hx hb hK hP hD hS 11 2 rfl rfl (vp_in_nI hlt_q9 (by decide)) dX10_pieces_126 (fun H locs hP hD hS => ?_)
                      have hP : va_P D vwCl (MW cy a J I (va_up R 11 (upd m0_79 (nI q9).toNatClampNeg (vp_nar .boolean 1))) RJ) H := hP
                      have hD : va_D A (MW cy a J I (va_up R 11 (upd m0_79 (nI q9).toNatClampNeg (vp_nar .boolean 1))) RJ) := hD
                      refine lv_iconst (v := 1) hx hb dX10_pieces_127 (by decide) ?_
                      refine lv_istore (lv' := [(4, .int 1), (0, .ref (a 0)), (1, .int (bI x0)), (2, .int v2_68), (3, .int (nI p9)), (5, .int (nI q9))]) hx hb dX10_pieces_128 hl (by decide) rfl (fun ls hl => ?_)
                      refine lv_iinc (v := nI (q9 + 1)) (lv' := [(5, .int (nI (q9 + 1))), (4, .int 1), (0, .ref (a 0)), (1, .int (bI x0)), (2, .int v2_68), (3, .int (nI p9))]) hx hb dX10_pieces_130 hl (k := 5) rfl (nI_1 _) (by decide) rfl (fun ls hl => ?_)
                      refine lv_goto (tgt := 79) hx hb dX10_pieces_133 (by decide) ?_
                      exact ih79 (q9 + 1) true (upd m0_79 (nI q9).toNatClampNeg (vp_nar .boolean 1)) hlt_q9 hm (cz_set hlt_q9 c_2 hc) (lt_dec hlt_q9 hn79) _ _ hP hD hS ls (lv_sub hl [2, 3, 4, 5, 1, 0] rfl)
          refine lv_iload hx hb dX10_pieces_68 (lv_at hl 4 rfl) ?_
          refine lv_if_eq (tgt := 139) hx hb dX10_pieces_70 (by decide) (fun c_7 => ?_) (fun c_7 => ?_)
          · replace c_7 := bI_f c_7
            refine lv_iinc (v := nI (p9 + 1)) (lv' := [(3, .int (nI (p9 + 1))), (0, .ref (a 0)), (1, .int (bI x0)), (2, .int v2_68), (4, .int (bI v4_68))]) hx hb dX10_pieces_139 hl (k := 3) rfl (nI_1 _) (by decide) rfl (fun ls hl => ?_)
            refine lv_goto (tgt := 25) hx hb dX10_pieces_142 (by decide) ?_
            exact ih25 (p9 + 1) v2_68 m0_68 hlp (lt_dec hlp hn25) _ _ hP hD hS ls (lv_sub hl [1, 2, 3, 0] rfl)
          · replace c_7 := bI_t c_7
            refine lv_iconst (v := 0) hx hb dX10_pieces_73 (by decide) ?_
            refine lv_istore (lv' := [(4, .int 0), (0, .ref (a 0)), (1, .int (bI x0)), (2, .int v2_68), (3, .int (nI p9))]) hx hb dX10_pieces_74 hl (by decide) rfl (fun ls hl => ?_)
            refine lv_iconst (v := 0) hx hb dX10_pieces_76 (by decide) ?_
            refine lv_istore (lv' := [(5, .int 0), (4, .int 0), (0, .ref (a 0)), (1, .int (bI x0)), (2, .int v2_68), (3, .int (nI p9))]) hx hb dX10_pieces_77 hl (by decide) rfl (fun ls hl => ?_)
            exact lp79 _ 0 false m0_68 (Nat.zero_le _) c_7 (Nat.le_refl _) (Nat.lt_succ_self _) _ _ hP hD hS ls (lv_sub hl [2, 3, 4, 5, 1, 0] rfl)
      refine lv_iload_n hx hb dX10_pieces_25 rfl (lv_at hl 3 rfl) ?_
      refine lv_bipush (v := 100) hx hb dX10_pieces_26 (by decide) ?_
      refine lv_icmp_ge (tgt := 145) hx hb dX10_pieces_28 (by decide) (fun c_8 => ?_) (fun c_8 => ?_)
      · refine lv_iload_n hx hb dX10_pieces_145 rfl (lv_at hl 2 rfl) ?_
        exact wret_i hx hb hr hlocks (J, I, (va_up R 11 m0_25), RJ) ⟨m0_25, trivial, rfl⟩ hP hD hS dX10_pieces_146
      · have hlt_p9 := ctr_lt (N := 100) (by decide) hp9 c_8
        refine lv_aload_n hx hb dX10_pieces_31 rfl (lv_at hl 0 rfl) ?_
        refine va_get (D := D) (ci := 9) (v := .ref (a 11)) (C := RX10) (T := TX10) (N := 30) hx hb hts hi10 hown hK hP 0 rfl rfl 17 (by decide) hw0 (fun _ h9 => h9) rfl dX10_pieces_32 ?_
        refine lv_iload_n hx hb dX10_pieces_35 rfl (lv_at hl 3 rfl) ?_
        refine va_zald hx hb hK hP 11 2 rfl rfl (vp_in_nI (by omega) (by decide)) dX10_pieces_36 ?_
        refine lv_if_ne (tgt := 139) hx hb dX10_pieces_37 (by decide) (fun c_9 => ?_) (fun c_9 => ?_)
        · refine lv_iinc (v := nI (p9 + 1)) (lv' := [(3, .int (nI (p9 + 1))), (0, .ref (a 0)), (1, .int (bI x0)), (2, .int v2_25)]) hx hb dX10_pieces_139 hl (k := 3) rfl (nI_1 _) (by decide) rfl (fun ls hl => ?_)
          refine lv_goto (tgt := 25) hx hb dX10_pieces_142 (by decide) ?_
          exact ih25 (p9 + 1) v2_25 m0_25 hlt_p9 (lt_dec hlt_p9 hn25) _ _ hP hD hS ls (lv_sub hl [1, 2, 3, 0] rfl)
        · refine lv_aload_n hx hb dX10_pieces_40 rfl (lv_at hl 0 rfl) ?_
          refine va_get (D := D) (ci := 9) (v := .long (J 0)) (C := RX10) (T := TX10) (N := 30) hx hb hts hi10 hown hK hP 0 rfl rfl 0 (by decide) hw1 (fun _ h9 => h9) rfl dX10_pieces_41 ?_
          refine lv_iload_n hx hb dX10_pieces_44 rfl (lv_at hl 3 rfl) ?_
          refine lv_iload_n hx hb dX10_pieces_45 rfl (lv_at hl 1 rfl) ?_
          refine kS_i (As := [.long (J 0), .int (nI p9), .int (bI x0)]) (rest := []) ⟨hx, hb, hml, hown, hts⟩ (c_X10_isOf l (J 0) (nI p9) x0) (va_cwS 3 hts gX10_pieces_X10_isOf rfl rfl rfl (by decide +kernel) ⟨Nat.le_of_ble_eq_true rfl, Nat.le_of_ble_eq_true rfl⟩) rfl hl.1 rfl (Nat.le_of_ble_eq_true rfl) dX10_pieces_46 ⟨Nat.le_of_ble_eq_true rfl, Nat.le_of_ble_eq_true rfl⟩ ?_
          refine lv_if_ne (tgt := 55) hx hb dX10_pieces_49 (by decide) (fun c_10 => ?_) (fun c_10 => ?_)
          · replace c_10 := bI_t c_10
            refine lv_iinc (v := v2_25 + 1) (lv' := [(2, .int (v2_25 + 1)), (0, .ref (a 0)), (1, .int (bI x0)), (3, .int (nI p9))]) hx hb dX10_pieces_55 hl (k := 2) rfl rfl (by decide) rfl (fun ls hl => ?_)
            refine lv_aload_n hx hb dX10_pieces_58 rfl (lv_at hl 1 rfl) ?_
            refine va_get (D := D) (ci := 9) (v := .ref (a 11)) (C := RX10) (T := TX10) (N := 30) hx hb hts hi10 hown hK hP 0 rfl rfl 17 (by decide) hw0 (fun _ h9 => h9) rfl dX10_pieces_59 ?_
            refine lv_iload_n hx hb dX10_pieces_62 rfl (lv_at hl 3 rfl) ?_
            refine lv_iconst (v := 1) hx hb dX10_pieces_63 (by decide) ?_
            refine va_zast hx hb hK hP hD hS 11 2 rfl rfl (vp_in_nI (by omega) (by decide)) dX10_pieces_64 (fun H locs hP hD hS => ?_)
            have hP : va_P D vwCl (MW cy a J I (va_up R 11 (upd m0_25 (nI p9).toNatClampNeg (vp_nar .boolean 1))) RJ) H := hP
            have hD : va_D A (MW cy a J I (va_up R 11 (upd m0_25 (nI p9).toNatClampNeg (vp_nar .boolean 1))) RJ) := hD
            refine lv_iconst (v := 1) hx hb dX10_pieces_65 (by decide) ?_
            refine lv_istore (lv' := [(4, .int 1), (2, .int (v2_25 + 1)), (0, .ref (a 0)), (1, .int (bI x0)), (3, .int (nI p9))]) hx hb dX10_pieces_66 hl (by decide) rfl (fun ls hl => ?_)
            exact lp68 _ (v2_25 + 1) true (upd m0_25 (nI p9).toNatClampNeg (vp_nar .boolean 1)) hlt_p9 (Nat.lt_succ_self _) _ _ hP hD hS ls (lv_sub hl [2, 3, 1, 4, 0] rfl)
          · replace c_10 := bI_f c_10
            refine lv_goto (tgt := 139) hx hb dX10_pieces_52 (by decide) ?_
            refine lv_iinc (v := nI (p9 + 1)) (lv' := [(3, .int (nI (p9 + 1))), (0, .ref (a 0)), (1, .int (bI x0)), (2, .int v2_25)]) hx hb dX10_pieces_139 hl (k := 3) rfl (nI_1 _) (by decide) rfl (fun ls hl => ?_)
            refine lv_goto (tgt := 25) hx hb dX10_pieces_142 (by decide) ?_
            exact ih25 (p9 + 1) v2_25 m0_25 hlt_p9 (lt_dec hlt_p9 hn25) _ _ hP hD hS ls (lv_sub hl [1, 2, 3, 0] rfl)
  have lp4 : ∀ (n4 : Nat), ∀ (i : Nat) (m0_4 : Nat → Int32), (i ≤ 100) → (100 - i) < n4 → ∀ (H : Heap) (locs : List Loc), va_P D vwCl (MW cy a J I (va_up R 11 m0_4) RJ) H → va_D A (MW cy a J I (va_up R 11 m0_4) RJ) → va_S A s.heap H locs → ∀ (ls : Array Slot), lv_has ls 6 [(0, .ref (a 0)), (1, .int (bI x0)), (2, .int 0), (3, .int (nI i))] → W p l e (headSpec wsX10_pieces ({ frames := 4, cells := 0, slots := 0, locals := 91 })).room s m ([.ref (a 0), .int (bI x0)] : List Value).toArray below meth c H locs 0 0 (MQ below (va_Qi (fun r (u : MS) => ∃ (w0 : Nat → Int32), (True) ∧ u = (J, I, (va_up R 11 w0), RJ)) (BW D A (MWu cy a)) A) ([.ref (a 0), .int (bI x0)] : List Value).toArray s 0 0 A) (F0 m 4 ls []) := by
    intro n4
    induction n4 with
    | zero => intro i m0_4 hi hn; exact absurd hn (Nat.not_lt_zero _)
    | succ n4 ih4 =>
      intro i m0_4 hi hn4 H locs hP hD hS ls hl
      refine lv_iload_n hx hb dX10_pieces_4 rfl (lv_at hl 3 rfl) ?_
      refine lv_bipush (v := 100) hx hb dX10_pieces_5 (by decide) ?_
      refine lv_icmp_ge (tgt := 23) hx hb dX10_pieces_7 (by decide) (fun c_11 => ?_) (fun c_11 => ?_)
      · refine lv_iconst (v := 0) hx hb dX10_pieces_23 (by decide) ?_
        refine lv_istore_n (lv' := [(3, .int 0), (0, .ref (a 0)), (1, .int (bI x0)), (2, .int 0)]) hx hb dX10_pieces_24 rfl hl (by decide) rfl (fun ls hl => ?_)
        exact lp25 _ 0 (0 : Int32) m0_4 (by omega) (Nat.lt_succ_self _) _ _ hP hD hS ls (lv_sub hl [1, 2, 3, 0] rfl)
      · have hlt_i := ctr_lt (N := 100) (by decide) hi c_11
        refine lv_aload_n hx hb dX10_pieces_10 rfl (lv_at hl 0 rfl) ?_
        refine va_get (D := D) (ci := 9) (v := .ref (a 11)) (C := RX10) (T := TX10) (N := 30) hx hb hts hi10 hown hK hP 0 rfl rfl 17 (by decide) hw0 (fun _ h9 => h9) rfl dX10_pieces_11 ?_
        refine lv_iload_n hx hb dX10_pieces_14 rfl (lv_at hl 3 rfl) ?_
        refine lv_iconst (v := 0) hx hb dX10_pieces_15 (by decide) ?_
        refine va_zast hx hb hK hP hD hS 11 2 rfl rfl (vp_in_nI (by omega) (by decide)) dX10_pieces_16 (fun H locs hP hD hS => ?_)
        have hP : va_P D vwCl (MW cy a J I (va_up R 11 (upd m0_4 (nI i).toNatClampNeg (vp_nar .boolean 0))) RJ) H := hP
        have hD : va_D A (MW cy a J I (va_up R 11 (upd m0_4 (nI i).toNatClampNeg (vp_nar .boolean 0))) RJ) := hD
        refine lv_iinc (v := nI (i + 1)) (lv' := [(3, .int (nI (i + 1))), (0, .ref (a 0)), (1, .int (bI x0)), (2, .int 0)]) hx hb dX10_pieces_17 hl (k := 3) rfl (nI_1 _) (by decide) rfl (fun ls hl => ?_)
        refine lv_goto (tgt := 4) hx hb dX10_pieces_20 (by decide) ?_
        exact ih4 (i + 1) (upd m0_4 (nI i).toNatClampNeg (vp_nar .boolean 0)) (by omega) (by omega) _ _ hP hD hS ls (lv_sub hl [1, 2, 3, 0] rfl)
  refine lv_iconst (v := 0) hx hb dX10_pieces_0 (by decide) ?_
  refine lv_istore_n (lv' := [(2, .int 0), (0, .ref (a 0)), (1, .int (bI x0))]) hx hb dX10_pieces_1 rfl hl (by decide) rfl (fun ls hl => ?_)
  refine lv_iconst (v := 0) hx hb dX10_pieces_2 (by decide) ?_
  refine lv_istore_n (lv' := [(3, .int 0), (2, .int 0), (0, .ref (a 0)), (1, .int (bI x0))]) hx hb dX10_pieces_3 rfl hl (by decide) rfl (fun ls hl => ?_)
  exact lp4 _ 0 (R 11) (by omega) (Nat.lt_succ_self _) _ _ hP hD hS ls (lv_sub hl [2, 3, 1, 0] rfl)
