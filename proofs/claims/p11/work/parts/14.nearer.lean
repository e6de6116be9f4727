def m_isDown (f how : Int32) : Bool := m_isDark (f - f / 8 * 8) (f / 8) == decide (how = 1)
theorem mid_t : ∀ f : Fin 64, ¬ (m_midst (nI f.val) < 0 ∨ 81 ≤ (m_midst (nI f.val)).toNatClampNeg) := by decide +kernel
theorem mid_m : ¬ (m_midst (-1) < 0 ∨ 81 ≤ (m_midst (-1)).toNatClampNeg) := by decide +kernel
theorem dX10_isDown_0 : decode cX10_isDown 0 = .ok (.iload_n 0, 1) := by decide +kernel
theorem dX10_isDown_1 : decode cX10_isDown 1 = .ok (.bipush 8, 2) := by decide +kernel
theorem dX10_isDown_3 : decode cX10_isDown 3 = .ok (.irem, 1) := by decide +kernel
theorem dX10_isDown_4 : decode cX10_isDown 4 = .ok (.iload_n 0, 1) := by decide +kernel
theorem dX10_isDown_5 : decode cX10_isDown 5 = .ok (.bipush 8, 2) := by decide +kernel
theorem dX10_isDown_7 : decode cX10_isDown 7 = .ok (.idiv, 1) := by decide +kernel
set_option maxRecDepth 20000 in
theorem ggX10_isDown_X10_isDark : GoodIn wsX10_isDown wsX10_isDark := goodIn_r _ [4] rfl (by decide +kernel)
set_option maxRecDepth 20000 in
theorem gX10_isDown_X10_isDark : GoodIn wsX10_isDown (va_wsS RX10 168 yX10_isDark wsX10_isDark) := goodIn_app (goodIn_r _ [1, 2, 3] rfl (by decide +kernel)) ggX10_isDown_X10_isDark
theorem dX10_isDown_8 : decode cX10_isDown 8 = .ok (.invokestatic 168, 3) := by decide +kernel
theorem dX10_isDown_11 : decode cX10_isDown 11 = .ok (.iload_n 1, 1) := by decide +kernel
theorem dX10_isDown_12 : decode cX10_isDown 12 = .ok (.iconst 1, 1) := by decide +kernel
theorem dX10_isDown_13 : decode cX10_isDown 13 = .ok (.if_icmp .ne 7, 3) := by decide +kernel
theorem dX10_isDown_20 : decode cX10_isDown 20 = .ok (.iconst 0, 1) := by decide +kernel
theorem dX10_isDown_21 : decode cX10_isDown 21 = .ok (.if_icmp .ne 7, 3) := by decide +kernel
theorem dX10_isDown_28 : decode cX10_isDown 28 = .ok (.iconst 0, 1) := by decide +kernel
theorem dX10_isDown_29 : decode cX10_isDown 29 = .ok (.ireturn, 1) := by decide +kernel
theorem dX10_isDown_24 : decode cX10_isDown 24 = .ok (.iconst 1, 1) := by decide +kernel
theorem dX10_isDown_25 : decode cX10_isDown 25 = .ok (.goto 4, 3) := by decide +kernel
theorem dX10_isDown_16 : decode cX10_isDown 16 = .ok (.iconst 1, 1) := by decide +kernel
theorem dX10_isDown_17 : decode cX10_isDown 17 = .ok (.goto 4, 3) := by decide +kernel
set_option maxHeartbeats 4000000 in
set_option maxRecDepth 100000 in
theorem c_X10_isDown (l : Launch) (x0 : Int32) (x1 : Int32) : Met l yX10_isDown wsX10_isDown ({ frames := 1, cells := 0, slots := 0, locals := 21 }) (va_Pc [.int x0, .int x1] (fun _ => True)) (vp_Si (fun r => r = bI (m_isDown x0 x1))) 0 0 (fun _ => False) := by
  refine Met.ofW (cc := cX10_isDown) (maxL := 2) (ret := (some .boolean)) (by decide) rfl ?_
  intro p e s m args below meth c s₁ B hml hv
  obtain ⟨rfl, -⟩ := hv
  have hx := B.exec
  have hb := B.bytes
  have hr := B.returns
  have hts := atoms_spec (ws := wsX10_isDown) B.pre
  have hown : s.vm.findClass RX10 = some m.cls := findClass_of_methodNamed B.named
  have hlocks := B.notSynchronized
  have hl := lv_entry ([.int x0, .int x1]) (n := 2) (Nat.le_of_ble_eq_true rfl)
  rw [lg_entry_eq]
  generalize (lg_sl ([.int x0, .int x1]) ++ List.replicate (2 - (lg_sl ([.int x0, .int x1])).length) Slot.unset).toArray = ls at hl ⊢
  have hl : lv_has ls 2 [(0, .int x0), (1, .int x1)] := hl
  refine lv_iload_n hx hb dX10_isDown_0 rfl (lv_at hl 0 rfl) ?_
  refine lv_bipush (v := 8) hx hb dX10_isDown_1 (by decide) ?_
  refine lv_irem hx hb dX10_isDown_3 (by decide) ?_
  refine lv_iload_n hx hb dX10_isDown_4 rfl (lv_at hl 0 rfl) ?_
  refine lv_bipush (v := 8) hx hb dX10_isDown_5 (by decide) ?_
  refine lv_idiv hx hb dX10_isDown_7 (by decide) ?_
  refine kS_i (As := [.int (x0 - x0 / 8 * 8), .int (x0 / 8)]) (rest := []) ⟨hx, hb, hml, hown, hts⟩ (c_X10_isDark l (x0 - x0 / 8 * 8) (x0 / 8)) (va_cwS 2 hts gX10_isDown_X10_isDark rfl rfl rfl (by decide +kernel) ⟨Nat.le_of_ble_eq_true rfl, Nat.le_of_ble_eq_true rfl⟩) rfl hl.1 rfl (Nat.le_of_ble_eq_true rfl) dX10_isDown_8 ⟨Nat.le_of_ble_eq_true rfl, Nat.le_of_ble_eq_true rfl⟩ ?_
  refine lv_iload_n hx hb dX10_isDown_11 rfl (lv_at hl 1 rfl) ?_
  refine lv_iconst (v := 1) hx hb dX10_isDown_12 (by decide) ?_
  refine lv_icmp_ne (tgt := 20) hx hb dX10_isDown_13 (by decide) (fun c_1 => ?_) (fun c_1 => ?_)
  · refine lv_iconst (v := 0) hx hb dX10_isDown_20 (by decide) ?_
    refine lv_icmp_ne (tgt := 28) hx hb dX10_isDown_21 (by decide) (fun c_2 => ?_) (fun c_2 => ?_)
    · refine lv_iconst (v := 0) hx hb dX10_isDown_28 (by decide) ?_
      exact pret_z hx hb hr hlocks (by cases h9 : m_isDark (x0 - x0 / 8 * 8) (x0 / 8) <;> simp_all [bI, m_isDown]) dX10_isDown_29
    · refine lv_iconst (v := 1) hx hb dX10_isDown_24 (by decide) ?_
      refine lv_goto (tgt := 29) hx hb dX10_isDown_25 (by decide) ?_
      exact pret_z hx hb hr hlocks (by cases h9 : m_isDark (x0 - x0 / 8 * 8) (x0 / 8) <;> simp_all [bI, m_isDown]) dX10_isDown_29
  · refine lv_iconst (v := 1) hx hb dX10_isDown_16 (by decide) ?_
    refine lv_goto (tgt := 21) hx hb dX10_isDown_17 (by decide) ?_
    refine lv_icmp_ne (tgt := 28) hx hb dX10_isDown_21 (by decide) (fun c_3 => ?_) (fun c_3 => ?_)
    · refine lv_iconst (v := 0) hx hb dX10_isDown_28 (by decide) ?_
      exact pret_z hx hb hr hlocks (by cases h9 : m_isDark (x0 - x0 / 8 * 8) (x0 / 8) <;> simp_all [bI, m_isDown]) dX10_isDown_29
    · refine lv_iconst (v := 1) hx hb dX10_isDown_24 (by decide) ?_
      refine lv_goto (tgt := 29) hx hb dX10_isDown_25 (by decide) ?_
      exact pret_z hx hb hr hlocks (by cases h9 : m_isDark (x0 - x0 / 8 * 8) (x0 / 8) <;> simp_all [bI, m_isDown]) dX10_isDown_29
theorem dX10_nearer_2 : decode cX10_nearer 2 = .ok (.iload_n 1, 1) := by decide +kernel
theorem dX10_nearer_3 : decode cX10_nearer 3 = .ok (.bipush 64, 2) := by decide +kernel
theorem dX10_nearer_5 : decode cX10_nearer 5 = .ok (.if_icmp .ge 78, 3) := by decide +kernel
theorem dX10_nearer_83 : decode cX10_nearer 83 = .ok (.iconst (-1), 1) := by decide +kernel
theorem dX10_nearer_84 : decode cX10_nearer 84 = .ok (.ireturn, 1) := by decide +kernel
theorem dX10_nearer_8 : decode cX10_nearer 8 = .ok (.aload_n 0, 1) := by decide +kernel
theorem dX10_nearer_9 : decode cX10_nearer 9 = .ok (.aload_n 0, 1) := by decide +kernel
theorem dX10_nearer_10 : decode cX10_nearer 10 = .ok (.getfield 210, 3) := by decide +kernel
theorem dX10_nearer_13 : decode cX10_nearer 13 = .ok (.aload_n 0, 1) := by decide +kernel
theorem dX10_nearer_14 : decode cX10_nearer 14 = .ok (.getfield 213, 3) := by decide +kernel
theorem dX10_nearer_17 : decode cX10_nearer 17 = .ok (.iload_n 1, 1) := by decide +kernel
set_option maxRecDepth 20000 in
theorem ggX10_nearer_X10_turnAt : GoodIn wsX10_nearer wsX10_turnAt := goodIn_r _ [9, 10, 11, 12, 13, 8, 14, 24, 25, 26, 27, 28, 29, 30, 31, 32, 33, 34, 35, 36, 37, 38, 39, 40, 41, 42, 43, 44, 45, 46, 47, 48, 49, 50, 51, 52, 53] rfl (by decide +kernel)
set_option maxRecDepth 20000 in
theorem gX10_nearer_X10_turnAt : GoodIn wsX10_nearer (wsV RX10 231 RX10 yX10_turnAt wsX10_turnAt) := goodIn_app (goodIn_r _ [5, 6, 7, 8] rfl (by decide +kernel)) ggX10_nearer_X10_turnAt
theorem dX10_nearer_18 : decode cX10_nearer 18 = .ok (.invokevirtual 231, 3) := by decide +kernel
theorem dX10_nearer_21 : decode cX10_nearer 21 = .ok (.istore_n 2, 1) := by decide +kernel
theorem dX10_nearer_22 : decode cX10_nearer 22 = .ok (.iload_n 2, 1) := by decide +kernel
theorem dX10_nearer_23 : decode cX10_nearer 23 = .ok (.ifCond .ne 6, 3) := by decide +kernel
theorem dX10_nearer_29 : decode cX10_nearer 29 = .ok (.iload_n 1, 1) := by decide +kernel
set_option maxRecDepth 20000 in
theorem ggX10_nearer_X10_midst : GoodIn wsX10_nearer wsX10_midst := goodIn_r _ [17] rfl (by decide +kernel)
set_option maxRecDepth 20000 in
theorem gX10_nearer_X10_midst : GoodIn wsX10_nearer (va_wsS RX10 277 yX10_midst wsX10_midst) := goodIn_app (goodIn_r _ [15, 16, 8] rfl (by decide +kernel)) ggX10_nearer_X10_midst
theorem dX10_nearer_30 : decode cX10_nearer 30 = .ok (.invokestatic 277, 3) := by decide +kernel
theorem dX10_nearer_33 : decode cX10_nearer 33 = .ok (.istore_n 3, 1) := by decide +kernel
theorem dX10_nearer_34 : decode cX10_nearer 34 = .ok (.iload_n 1, 1) := by decide +kernel
theorem dX10_nearer_35 : decode cX10_nearer 35 = .ok (.iload_n 2, 1) := by decide +kernel
set_option maxRecDepth 20000 in
theorem ggX10_nearer_X10_isDown : GoodIn wsX10_nearer wsX10_isDown := goodIn_r _ [20, 21, 22, 8, 23] rfl (by decide +kernel)
set_option maxRecDepth 20000 in
theorem gX10_nearer_X10_isDown : GoodIn wsX10_nearer (va_wsS RX10 260 yX10_isDown wsX10_isDown) := goodIn_app (goodIn_r _ [18, 19, 8] rfl (by decide +kernel)) ggX10_nearer_X10_isDown
theorem dX10_nearer_36 : decode cX10_nearer 36 = .ok (.invokestatic 260, 3) := by decide +kernel
theorem dX10_nearer_39 : decode cX10_nearer 39 = .ok (.ifCond .eq 21, 3) := by decide +kernel
theorem dX10_nearer_60 : decode cX10_nearer 60 = .ok (.aload_n 0, 1) := by decide +kernel
theorem dX10_nearer_61 : decode cX10_nearer 61 = .ok (.getfield 48, 3) := by decide +kernel
theorem dX10_nearer_64 : decode cX10_nearer 64 = .ok (.iload_n 3, 1) := by decide +kernel
theorem dX10_nearer_65 : decode cX10_nearer 65 = .ok (.iaload, 1) := by decide +kernel
theorem dX10_nearer_66 : decode cX10_nearer 66 = .ok (.aload_n 0, 1) := by decide +kernel
theorem dX10_nearer_67 : decode cX10_nearer 67 = .ok (.getfield 51, 3) := by decide +kernel
theorem dX10_nearer_70 : decode cX10_nearer 70 = .ok (.iload_n 3, 1) := by decide +kernel
theorem dX10_nearer_71 : decode cX10_nearer 71 = .ok (.iaload, 1) := by decide +kernel
theorem dX10_nearer_72 : decode cX10_nearer 72 = .ok (.if_icmp .ge 5, 3) := by decide +kernel
theorem dX10_nearer_77 : decode cX10_nearer 77 = .ok (.iinc 1 1, 3) := by decide +kernel
theorem dX10_nearer_80 : decode cX10_nearer 80 = .ok (.goto (-78), 3) := by decide +kernel
theorem dX10_nearer_75 : decode cX10_nearer 75 = .ok (.iload_n 1, 1) := by decide +kernel
theorem dX10_nearer_76 : decode cX10_nearer 76 = .ok (.ireturn, 1) := by decide +kernel
theorem dX10_nearer_42 : decode cX10_nearer 42 = .ok (.aload_n 0, 1) := by decide +kernel
theorem dX10_nearer_43 : decode cX10_nearer 43 = .ok (.getfield 48, 3) := by decide +kernel
theorem dX10_nearer_46 : decode cX10_nearer 46 = .ok (.iload_n 3, 1) := by decide +kernel
theorem dX10_nearer_47 : decode cX10_nearer 47 = .ok (.iaload, 1) := by decide +kernel
theorem dX10_nearer_48 : decode cX10_nearer 48 = .ok (.aload_n 0, 1) := by decide +kernel
theorem dX10_nearer_49 : decode cX10_nearer 49 = .ok (.getfield 51, 3) := by decide +kernel
theorem dX10_nearer_52 : decode cX10_nearer 52 = .ok (.iload_n 3, 1) := by decide +kernel
theorem dX10_nearer_53 : decode cX10_nearer 53 = .ok (.iaload, 1) := by decide +kernel
theorem dX10_nearer_54 : decode cX10_nearer 54 = .ok (.if_icmp .le 23, 3) := by decide +kernel
theorem dX10_nearer_57 : decode cX10_nearer 57 = .ok (.goto 18, 3) := by decide +kernel
theorem dX10_nearer_26 : decode cX10_nearer 26 = .ok (.goto 51, 3) := by decide +kernel
theorem dX10_nearer_0 : decode cX10_nearer 0 = .ok (.iconst 0, 1) := by decide +kernel
theorem dX10_nearer_1 : decode cX10_nearer 1 = .ok (.istore_n 1, 1) := by decide +kernel
set_option maxRecDepth 20000 in
theorem ihX10_nearer_10 : ∀ w ∈ u_ws RX10 TX10 30, w ∈ wsX10_nearer := fun _ h => List.mem_cons_of_mem _ (List.mem_append_right _ h)
set_option maxHeartbeats 4000000 in
set_option maxRecDepth 100000 in
theorem t_X10_nearer (l : Launch) (D : va_G) (cy : Nat → ClassId) (a : Nat → Nat) (sz : Nat) (J : Nat → Int64) (I : Nat → Int32) (R : Nat → Nat → Int32) (RJ : Nat → Nat → Int64)  : Met l yX10_nearer wsX10_nearer ({ frames := 2, cells := 0, slots := 0, locals := 47 }) (va_Pc [.ref (a 0)] (PW D cy sz (MW cy a J I R RJ))) (va_Qi (fun r (u : MS) => ((vp_in (m_midst r) 81)) ∧ u = (J, I, R, RJ)) (BW D (va_A (MW cy a J I R RJ) sz) (MWu cy a)) (va_A (MW cy a J I R RJ) sz)) 0 0 (va_A (MW cy a J I R RJ) sz) := by
  refine Met.ofW (cc := cX10_nearer) (maxL := 4) (ret := (some .int)) (by decide) rfl ?_
  intro p e s m args below meth c s₁ B hml hv
  obtain ⟨rfl, rfl, hP, hK, hN, hD0⟩ := hv
  have hx := B.exec
  have hb := B.bytes
  have hr := B.returns
  have hts := atoms_spec (ws := wsX10_nearer) B.pre
  have hown : s.vm.findClass RX10 = some m.cls := findClass_of_methodNamed B.named
  have hlocks := B.notSynchronized
  have hw0 := hts (.fieldLink RX10 210 "ParquetLayerModel" "walkAlong" "J") (by decide +kernel)
  have hw1 := hts (.fieldLink RX10 213 "ParquetLayerModel" "walkAcross" "J") (by decide +kernel)
  have hw2 := hts (.fieldLink RX10 48 "ParquetLayerModel" "one" "[I") (by decide +kernel)
  have hw3 := hts (.fieldLink RX10 51 "ParquetLayerModel" "two" "[I") (by decide +kernel)
  have hi10 := ihX10_nearer_10
  have hD := hD0.self (sz := s.heap.size)
  generalize hAe : va_A (MW cy a J I R RJ) s.heap.size = A at hD ⊢
  have hA : ∀ q : Nat, s.heap.size ≤ q → A q := fun q h => by rw [← hAe]; exact Or.inr h
  have hS : va_S A s.heap s.heap [] := va_S.rf
  have hl := lv_entry ([.ref (a 0)]) (n := 4) (Nat.le_of_ble_eq_true rfl)
  rw [lg_entry_eq]
  generalize (lg_sl ([.ref (a 0)]) ++ List.replicate (4 - (lg_sl ([.ref (a 0)])).length) Slot.unset).toArray = ls at hl ⊢
  have hl : lv_has ls 4 [(0, .ref (a 0))] := hl
  have lp2 : ∀ (n2 : Nat), ∀ (i : Nat), (i ≤ 64) → (64 - i) < n2 → ∀ (H : Heap) (locs : List Loc), va_P D vwCl (MW cy a J I R RJ) H → va_D A (MW cy a J I R RJ) → va_S A s.heap H locs → ∀ (ls : Array Slot), lv_has ls 4 [(0, .ref (a 0)), (1, .int (nI i))] → W p l e (headSpec wsX10_nearer ({ frames := 2, cells := 0, slots := 0, locals := 47 })).room s m ([.ref (a 0)] : List Value).toArray below meth c H locs 0 0 (MQ below (va_Qi (fun r (u : MS) => ((vp_in (m_midst r) 81)) ∧ u = (J, I, R, RJ)) (BW D A (MWu cy a)) A) ([.ref (a 0)] : List Value).toArray s 0 0 A) (F0 m 2 ls []) := by
    intro n2
    induction n2 with
    | zero => intro i hi hn; exact absurd hn (Nat.not_lt_zero _)
    | succ n2 ih2 =>
      intro i hi hn2 H locs hP hD hS ls hl
      refine lv_iload_n hx hb dX10_nearer_2 rfl (lv_at hl 1 rfl) ?_
      refine lv_bipush (v := 64) hx hb dX10_nearer_3 (by decide) ?_
      refine lv_icmp_ge (tgt := 83) hx hb dX10_nearer_5 (by decide) (fun c_1 => ?_) (fun c_1 => ?_)
      · refine lv_iconst (v := (-1)) hx hb dX10_nearer_83 (by decide) ?_
        exact wret_i hx hb hr hlocks (J, I, R, RJ) ⟨mid_m, rfl⟩ hP hD hS dX10_nearer_84
      · have hlt_i := ctr_lt (N := 64) (by decide) hi c_1
        refine lv_aload_n hx hb dX10_nearer_8 rfl (lv_at hl 0 rfl) ?_
        refine lv_aload_n hx hb dX10_nearer_9 rfl (lv_at hl 0 rfl) ?_
        refine va_get (D := D) (ci := 9) (v := .long (J 22)) (C := RX10) (T := TX10) (N := 30) hx hb hts hi10 hown hK hP 0 rfl rfl 22 (by decide) hw0 (fun _ h9 => h9) rfl dX10_nearer_10 ?_
        refine lv_aload_n hx hb dX10_nearer_13 rfl (lv_at hl 0 rfl) ?_
        refine va_get (D := D) (ci := 9) (v := .long (J 23)) (C := RX10) (T := TX10) (N := 30) hx hb hts hi10 hown hK hP 0 rfl rfl 23 (by decide) hw1 (fun _ h9 => h9) rfl dX10_nearer_14 ?_
        refine lv_iload_n hx hb dX10_nearer_17 rfl (lv_at hl 1 rfl) ?_
        refine kM_i (As := [.long (J 22), .long (J 23), .int (nI i)]) (rest := []) (q0 := 0) ⟨hx, hb, hml, hown, hts⟩ (t_X10_turnAt l D cy a _ J I R RJ (J 22) (J 23) (nI i)  ) (cwV 3 hts gX10_nearer_X10_turnAt rfl rfl rfl (by decide +kernel) ⟨Nat.le_of_ble_eq_true rfl, Nat.le_of_ble_eq_true rfl⟩) hK hN hP hD hS hA rfl rfl rfl hl.1 rfl (Nat.le_of_ble_eq_true rfl) dX10_nearer_18 ⟨Nat.le_of_ble_eq_true rfl, Nat.le_of_ble_eq_true rfl⟩ (fun r_2 u H locs hw hP hD hS => ?_)
        obtain ⟨-, rfl⟩ := hw
        have hP : va_P D vwCl (MW cy a J I R RJ) H := hP
        have hD : va_D A (MW cy a J I R RJ) := hD
        refine lv_istore_n (lv' := [(2, .int r_2), (0, .ref (a 0)), (1, .int (nI i))]) hx hb dX10_nearer_21 rfl hl (by decide) rfl (fun ls hl => ?_)
        refine lv_iload_n hx hb dX10_nearer_22 rfl (lv_at hl 0 rfl) ?_
        refine lv_if_ne (tgt := 29) hx hb dX10_nearer_23 (by decide) (fun c_3 => ?_) (fun c_3 => ?_)
        · refine lv_iload_n hx hb dX10_nearer_29 rfl (lv_at hl 2 rfl) ?_
          refine kS_i (As := [.int (nI i)]) (rest := []) ⟨hx, hb, hml, hown, hts⟩ (c_X10_midst l (nI i)) (va_cwS 1 hts gX10_nearer_X10_midst rfl rfl rfl (by decide +kernel) ⟨Nat.le_of_ble_eq_true rfl, Nat.le_of_ble_eq_true rfl⟩) rfl hl.1 rfl (Nat.le_of_ble_eq_true rfl) dX10_nearer_30 ⟨Nat.le_of_ble_eq_true rfl, Nat.le_of_ble_eq_true rfl⟩ ?_
          refine lv_istore_n (lv' := [(3, .int (m_midst (nI i))), (2, .int r_2), (0, .ref (a 0)), (1, .int (nI i))]) hx hb dX10_nearer_33 rfl hl (by decide) rfl (fun ls hl => ?_)
          refine lv_iload_n hx hb dX10_nearer_34 rfl (lv_at hl 3 rfl) ?_
          refine lv_iload_n hx hb dX10_nearer_35 rfl (lv_at hl 1 rfl) ?_
          refine kS_i (As := [.int (nI i), .int r_2]) (rest := []) ⟨hx, hb, hml, hown, hts⟩ (c_X10_isDown l (nI i) r_2) (va_cwS 2 hts gX10_nearer_X10_isDown rfl rfl rfl (by decide +kernel) ⟨Nat.le_of_ble_eq_true rfl, Nat.le_of_ble_eq_true rfl⟩) rfl hl.1 rfl (Nat.le_of_ble_eq_true rfl) dX10_nearer_36 ⟨Nat.le_of_ble_eq_true rfl, Nat.le_of_ble_eq_true rfl⟩ ?_
          refine lv_if_eq (tgt := 60) hx hb dX10_nearer_39 (by decide) (fun c_4 => ?_) (fun c_4 => ?_)
          · replace c_4 := bI_f c_4
            refine lv_aload_n hx hb dX10_nearer_60 rfl (lv_at hl 2 rfl) ?_
            refine va_get (D := D) (ci := 9) (v := .ref (a 13)) (C := RX10) (T := TX10) (N := 30) hx hb hts hi10 hown hK hP 0 rfl rfl 24 (by decide) hw2 (fun _ h9 => h9) rfl dX10_nearer_61 ?_
            refine lv_iload_n hx hb dX10_nearer_64 rfl (lv_at hl 0 rfl) ?_
            refine va_iald hx hb hK hP 13 0 rfl rfl (mid_t ⟨i, hlt_i⟩) dX10_nearer_65 ?_
            refine lv_aload_n hx hb dX10_nearer_66 rfl (lv_at hl 2 rfl) ?_
            refine va_get (D := D) (ci := 9) (v := .ref (a 14)) (C := RX10) (T := TX10) (N := 30) hx hb hts hi10 hown hK hP 0 rfl rfl 25 (by decide) hw3 (fun _ h9 => h9) rfl dX10_nearer_67 ?_
            refine lv_iload_n hx hb dX10_nearer_70 rfl (lv_at hl 0 rfl) ?_
            refine va_iald hx hb hK hP 14 0 rfl rfl (mid_t ⟨i, hlt_i⟩) dX10_nearer_71 ?_
            refine lv_icmp_ge (tgt := 77) hx hb dX10_nearer_72 (by decide) (fun c_5 => ?_) (fun c_5 => ?_)
            · refine lv_iinc (v := nI (i + 1)) (lv' := [(1, .int (nI (i + 1))), (3, .int (m_midst (nI i))), (2, .int r_2), (0, .ref (a 0))]) hx hb dX10_nearer_77 hl (k := 3) rfl (nI_1 _) (by decide) rfl (fun ls hl => ?_)
              refine lv_goto (tgt := 2) hx hb dX10_nearer_80 (by decide) ?_
              exact ih2 (i + 1) (by omega) (by omega) _ _ hP hD hS ls (lv_sub hl [3, 0] rfl)
            · refine lv_iload_n hx hb dX10_nearer_75 rfl (lv_at hl 3 rfl) ?_
              exact wret_i hx hb hr hlocks (J, I, R, RJ) ⟨(mid_t ⟨i, hlt_i⟩), rfl⟩ hP hD hS dX10_nearer_76
          · replace c_4 := bI_t c_4
            refine lv_aload_n hx hb dX10_nearer_42 rfl (lv_at hl 2 rfl) ?_
            refine va_get (D := D) (ci := 9) (v := .ref (a 13)) (C := RX10) (T := TX10) (N := 30) hx hb hts hi10 hown hK hP 0 rfl rfl 24 (by decide) hw2 (fun _ h9 => h9) rfl dX10_nearer_43 ?_
            refine lv_iload_n hx hb dX10_nearer_46 rfl (lv_at hl 0 rfl) ?_
            refine va_iald hx hb hK hP 13 0 rfl rfl (mid_t ⟨i, hlt_i⟩) dX10_nearer_47 ?_
            refine lv_aload_n hx hb dX10_nearer_48 rfl (lv_at hl 2 rfl) ?_
            refine va_get (D := D) (ci := 9) (v := .ref (a 14)) (C := RX10) (T := TX10) (N := 30) hx hb hts hi10 hown hK hP 0 rfl rfl 25 (by decide) hw3 (fun _ h9 => h9) rfl dX10_nearer_49 ?_
            refine lv_iload_n hx hb dX10_nearer_52 rfl (lv_at hl 0 rfl) ?_
            refine va_iald hx hb hK hP 14 0 rfl rfl (mid_t ⟨i, hlt_i⟩) dX10_nearer_53 ?_
            refine lv_icmp_le (tgt := 77) hx hb dX10_nearer_54 (by decide) (fun c_6 => ?_) (fun c_6 => ?_)
            · refine lv_iinc (v := nI (i + 1)) (lv' := [(1, .int (nI (i + 1))), (3, .int (m_midst (nI i))), (2, .int r_2), (0, .ref (a 0))]) hx hb dX10_nearer_77 hl (k := 3) rfl (nI_1 _) (by decide) rfl (fun ls hl => ?_)
              refine lv_goto (tgt := 2) hx hb dX10_nearer_80 (by decide) ?_
              exact ih2 (i + 1) (by omega) (by omega) _ _ hP hD hS ls (lv_sub hl [3, 0] rfl)
            · refine lv_goto (tgt := 75) hx hb dX10_nearer_57 (by decide) ?_
              refine lv_iload_n hx hb dX10_nearer_75 rfl (lv_at hl 3 rfl) ?_
              exact wret_i hx hb hr hlocks (J, I, R, RJ) ⟨(mid_t ⟨i, hlt_i⟩), rfl⟩ hP hD hS dX10_nearer_76
        · refine lv_goto (tgt := 77) hx hb dX10_nearer_26 (by decide) ?_
          refine lv_iinc (v := nI (i + 1)) (lv' := [(1, .int (nI (i + 1))), (2, .int r_2), (0, .ref (a 0))]) hx hb dX10_nearer_77 hl (k := 2) rfl (nI_1 _) (by decide) rfl (fun ls hl => ?_)
          refine lv_goto (tgt := 2) hx hb dX10_nearer_80 (by decide) ?_
          exact ih2 (i + 1) (by omega) (by omega) _ _ hP hD hS ls (lv_sub hl [2, 0] rfl)
  refine lv_iconst (v := 0) hx hb dX10_nearer_0 (by decide) ?_
  refine lv_istore_n (lv' := [(1, .int 0), (0, .ref (a 0))]) hx hb dX10_nearer_1 rfl hl (by decide) rfl (fun ls hl => ?_)
  exact lp2 _ 0 (by omega) (Nat.lt_succ_self _) _ _ hP hD hS ls (lv_sub hl [1, 0] rfl)
