theorem ctr_lt2 {i N : Nat} (hN : N < 2147483648) (hi : i < 2147483648) (c : ¬ nI N ≤ nI i) : i < N := by
  rcases Nat.lt_or_ge i N with h | h
  · exact h
  · exact absurd ((nI_leI (a := N) (b := i) hN hi).mpr h) c
theorem i32_rng (x : Int32) : -2147483648 ≤ x.toInt ∧ x.toInt < 2147483648 := ⟨Int32.le_toInt x, Int32.toInt_lt x⟩
theorem within_iff {x lo hi : Int32} : m_within x lo hi = true ↔ lo.toInt ≤ x.toInt ∧ x.toInt ≤ hi.toInt := by
  simp [m_within, Int32.lt_iff_toInt_lt]
theorem within_in4 {x : Int32} (h : m_within x 0 3 = true) : vp_in x 4 := by
  simp [m_within, Int32.lt_iff_toInt_lt] at h
  rw [vp_in_iff]
  omega
theorem within_in64 {x : Int32} (h : m_within x 0 63 = true) : vp_in x 64 := by
  simp [m_within, Int32.lt_iff_toInt_lt] at h
  rw [vp_in_iff]
  omega
theorem ix16 {x : Int32} {i : Nat} (h : vp_in x 4) (hi : i < 16) : vp_in (16 * x + nI i) 64 := by
  obtain ⟨j, hj, rfl⟩ := vp_in_of h (by decide)
  have e : (16 : Int32) * nI j + nI i = nI (16 * j + i) := by
    rw [← nI_add, ← pk_mul]; rfl
  rw [e]
  exact vp_in_nI (by omega) (by decide)
theorem nI_int {j : Nat} (h : j < 2147483647) : (nI j).toInt = j := by
  have h1 := vp_in_iff.mp (vp_in_nI (N := j + 1) (Nat.lt_succ_self j) (by omega))
  have h2 := nI_clamp (n := j) (by omega)
  have h3 : (nI j).toNatClampNeg = (nI j).toInt.toNat := rfl
  omega
theorem sub1_int {z : Int32} {n : Nat} (h : vp_in z (n + 1)) (hn : n < 2147483647) : (z - 1).toInt = z.toInt - 1 := by
  obtain ⟨j, hj, rfl⟩ := vp_in_of h (by omega)
  cases j with
  | zero => decide
  | succ j => rw [nI_s1, nI_int (by omega), nI_int (by omega)]; omega
theorem st_in {x z : Int32} (h : vp_in z 21) (hw : m_within x 0 (z - 1) = true) : vp_in x 20 := by
  rw [within_iff, sub1_int (n := 20) h (by decide)] at hw
  rw [vp_in_iff] at *
  have : (0 : Int32).toInt = 0 := rfl
  omega
theorem sz_in {x z : Int32} (h : vp_in z 17) (hw : m_within x 0 (z - 1) = true) : vp_in x 16 := by
  rw [within_iff, sub1_int (n := 16) h (by decide)] at hw
  rw [vp_in_iff] at *
  have : (0 : Int32).toInt = 0 := rfl
  omega
theorem put_in {x y z : Int32} (hx : vp_in x 4) (hz : vp_in z 17) (hw : m_within y 0 (z - 1) = true) : vp_in (16 * x + y) 64 := by
  obtain ⟨j, hj, rfl⟩ := vp_in_of (sz_in hz hw) (by decide)
  exact ix16 hx hj
theorem in17 {x : Int32} (h0 : (0 : Int32) ≤ x) (h1 : x ≤ 16) : vp_in x 17 := by
  rw [Int32.le_iff_toInt_le] at h0 h1
  rw [vp_in_iff]
  have e0 : (0 : Int32).toInt = 0 := rfl
  have e1 : (16 : Int32).toInt = 16 := rfl
  omega
def a_sheet (q bits n : Int32) : Int32 := if m_within q 0 3 && (decide (bits = 0) || decide (bits = 8) || decide (bits = 16) || decide (bits = 32)) then (if n < 0 then (-100003) else if 16 < n then (-100001) else if bits = 0 then 0 else n) else (-100001)
theorem dX10_gluedMany_4 : decode cX10_gluedMany 4 = .ok (.iload_n 2, 1) := by decide +kernel
theorem dX10_gluedMany_5 : decode cX10_gluedMany 5 = .ok (.aload_n 0, 1) := by decide +kernel
theorem dX10_gluedMany_6 : decode cX10_gluedMany 6 = .ok (.getfield 85, 3) := by decide +kernel
theorem dX10_gluedMany_9 : decode cX10_gluedMany 9 = .ok (.if_icmp .ge 25, 3) := by decide +kernel
theorem dX10_gluedMany_34 : decode cX10_gluedMany 34 = .ok (.iload_n 1, 1) := by decide +kernel
theorem dX10_gluedMany_35 : decode cX10_gluedMany 35 = .ok (.ireturn, 1) := by decide +kernel
theorem dX10_gluedMany_12 : decode cX10_gluedMany 12 = .ok (.iload_n 1, 1) := by decide +kernel
theorem dX10_gluedMany_13 : decode cX10_gluedMany 13 = .ok (.aload_n 0, 1) := by decide +kernel
theorem dX10_gluedMany_14 : decode cX10_gluedMany 14 = .ok (.iload_n 2, 1) := by decide +kernel
set_option maxRecDepth 20000 in
theorem ggX10_gluedMany_X10_isGlued : GoodIn wsX10_gluedMany wsX10_isGlued := goodIn_r _ [6, 7, 8, 9, 5, 10, 11, 12, 13, 14, 15, 16, 17, 18, 19, 20, 21, 22, 23, 24, 25, 26, 27, 28, 29, 30, 31, 32, 33, 34, 35, 36, 37, 38, 39, 40, 41] rfl (by decide +kernel)
set_option maxRecDepth 20000 in
theorem gX10_gluedMany_X10_isGlued : GoodIn wsX10_gluedMany (wsV RX10 157 RX10 yX10_isGlued wsX10_isGlued) := goodIn_app (goodIn_r _ [2, 3, 4, 5] rfl (by decide +kernel)) ggX10_gluedMany_X10_isGlued
theorem dX10_gluedMany_15 : decode cX10_gluedMany 15 = .ok (.invokevirtual 157, 3) := by decide +kernel
theorem dX10_gluedMany_18 : decode cX10_gluedMany 18 = .ok (.ifCond .eq 7, 3) := by decide +kernel
theorem dX10_gluedMany_25 : decode cX10_gluedMany 25 = .ok (.iconst 0, 1) := by decide +kernel
theorem dX10_gluedMany_26 : decode cX10_gluedMany 26 = .ok (.iadd, 1) := by decide +kernel
theorem dX10_gluedMany_27 : decode cX10_gluedMany 27 = .ok (.istore_n 1, 1) := by decide +kernel
theorem dX10_gluedMany_28 : decode cX10_gluedMany 28 = .ok (.iinc 2 1, 3) := by decide +kernel
theorem dX10_gluedMany_31 : decode cX10_gluedMany 31 = .ok (.goto (-27), 3) := by decide +kernel
theorem dX10_gluedMany_21 : decode cX10_gluedMany 21 = .ok (.iconst 1, 1) := by decide +kernel
theorem dX10_gluedMany_22 : decode cX10_gluedMany 22 = .ok (.goto 4, 3) := by decide +kernel
theorem dX10_gluedMany_0 : decode cX10_gluedMany 0 = .ok (.iconst 0, 1) := by decide +kernel
theorem dX10_gluedMany_1 : decode cX10_gluedMany 1 = .ok (.istore_n 1, 1) := by decide +kernel
theorem dX10_gluedMany_2 : decode cX10_gluedMany 2 = .ok (.iconst 0, 1) := by decide +kernel
theorem dX10_gluedMany_3 : decode cX10_gluedMany 3 = .ok (.istore_n 2, 1) := by decide +kernel
set_option maxRecDepth 20000 in
theorem ihX10_gluedMany_10 : ∀ w ∈ u_ws RX10 TX10 30, w ∈ wsX10_gluedMany := fun _ h => List.mem_cons_of_mem _ (List.mem_append_right _ h)
set_option maxHeartbeats 4000000 in
set_option maxRecDepth 100000 in
theorem t_X10_gluedMany (l : Launch) (D : va_G) (cy : Nat → ClassId) (a : Nat → Nat) (sz : Nat) (J : Nat → Int64) (I : Nat → Int32) (R : Nat → Nat → Int32) (RJ : Nat → Nat → Int64)  (hM : MI I R) : Met l yX10_gluedMany wsX10_gluedMany ({ frames := 2, cells := 0, slots := 0, locals := 42 }) (va_Pc [.ref (a 0)] (PW D cy sz (MW cy a J I R RJ))) (va_Qi (fun r (u : MS) => (True) ∧ u = (J, I, R, RJ)) (BW D (va_A (MW cy a J I R RJ) sz) (MWu cy a)) (va_A (MW cy a J I R RJ) sz)) 0 0 (va_A (MW cy a J I R RJ) sz) := by
  refine Met.ofW (cc := cX10_gluedMany) (maxL := 3) (ret := (some .int)) (by decide) rfl ?_
  intro p e s m args below meth c s₁ B hml hv
  obtain ⟨rfl, rfl, hP, hK, hN, hD0⟩ := hv
  have hx := B.exec
  have hb := B.bytes
  have hr := B.returns
  have hts := atoms_spec (ws := wsX10_gluedMany) B.pre
  have hown : s.vm.findClass RX10 = some m.cls := findClass_of_methodNamed B.named
  have hlocks := B.notSynchronized
  have hw0 := hts (.fieldLink RX10 85 "ParquetLayerModel" "stones" "I") (by decide +kernel)
  have hi10 := ihX10_gluedMany_10
  have hD := hD0.self (sz := s.heap.size)
  generalize hAe : va_A (MW cy a J I R RJ) s.heap.size = A at hD ⊢
  have hA : ∀ q : Nat, s.heap.size ≤ q → A q := fun q h => by rw [← hAe]; exact Or.inr h
  have hS : va_S A s.heap s.heap [] := va_S.rf
  have hl := lv_entry ([.ref (a 0)]) (n := 3) (Nat.le_of_ble_eq_true rfl)
  rw [lg_entry_eq]
  generalize (lg_sl ([.ref (a 0)]) ++ List.replicate (3 - (lg_sl ([.ref (a 0)])).length) Slot.unset).toArray = ls at hl ⊢
  have hl : lv_has ls 3 [(0, .ref (a 0))] := hl
  obtain ⟨ns, hns, hI1⟩ := vp_in_of hM.1 (by decide)
  have lp4 : ∀ (n4 : Nat), ∀ (i : Nat) (v1_4 : Int32), (i ≤ ns) → (ns - i) < n4 → ∀ (H : Heap) (locs : List Loc), va_P D vwCl (MW cy a J I R RJ) H → va_D A (MW cy a J I R RJ) → va_S A s.heap H locs → ∀ (ls : Array Slot), lv_has ls 3 [(0, .ref (a 0)), (1, .int v1_4), (2, .int (nI i))] → W p l e (headSpec wsX10_gluedMany ({ frames := 2, cells := 0, slots := 0, locals := 42 })).room s m ([.ref (a 0)] : List Value).toArray below meth c H locs 0 0 (MQ below (va_Qi (fun r (u : MS) => (True) ∧ u = (J, I, R, RJ)) (BW D A (MWu cy a)) A) ([.ref (a 0)] : List Value).toArray s 0 0 A) (F0 m 4 ls []) := by
    intro n4
    induction n4 with
    | zero => intro i v1_4 hi hn; exact absurd hn (Nat.not_lt_zero _)
    | succ n4 ih4 =>
      intro i v1_4 hi hn4 H locs hP hD hS ls hl
      refine lv_iload_n hx hb dX10_gluedMany_4 rfl (lv_at hl 2 rfl) ?_
      refine lv_aload_n hx hb dX10_gluedMany_5 rfl (lv_at hl 0 rfl) ?_
      refine va_get (D := D) (ci := 9) (v := .int (I 1)) (C := RX10) (T := TX10) (N := 30) hx hb hts hi10 hown hK hP 0 rfl rfl 1 (by decide) hw0 (fun _ h9 => h9) rfl dX10_gluedMany_6 ?_
      refine lv_icmp_ge (tgt := 34) hx hb dX10_gluedMany_9 (by decide) (fun c_1 => ?_) (fun c_1 => ?_)
      · refine lv_iload_n hx hb dX10_gluedMany_34 rfl (lv_at hl 1 rfl) ?_
        exact wret_i hx hb hr hlocks (J, I, R, RJ) ⟨trivial, rfl⟩ hP hD hS dX10_gluedMany_35
      · have hlt := ctr_lt (N := ns) (by omega) hi (by rw [← hI1]; exact c_1)
        refine lv_iload_n hx hb dX10_gluedMany_12 rfl (lv_at hl 1 rfl) ?_
        refine lv_aload_n hx hb dX10_gluedMany_13 rfl (lv_at hl 0 rfl) ?_
        refine lv_iload_n hx hb dX10_gluedMany_14 rfl (lv_at hl 2 rfl) ?_
        refine kR_i (As := [.int (nI i)]) (rest := [.int v1_4]) (q0 := 0) ⟨hx, hb, hml, hown, hts⟩ (c_X10_isGlued l D cy a _ J I R RJ (nI i) (vp_in_nI (by omega) (by decide))) (cwV 1 hts gX10_gluedMany_X10_isGlued rfl rfl rfl (by decide +kernel) ⟨Nat.le_of_ble_eq_true rfl, Nat.le_of_ble_eq_true rfl⟩) hK hN hP hD rfl rfl rfl hl.1 rfl (Nat.le_of_ble_eq_true rfl) dX10_gluedMany_15 ⟨Nat.le_of_ble_eq_true rfl, Nat.le_of_ble_eq_true rfl⟩ ?_
        refine lv_if_eq (tgt := 25) hx hb dX10_gluedMany_18 (by decide) (fun c_2 => ?_) (fun c_2 => ?_)
        · replace c_2 := bI_f c_2
          refine lv_iconst (v := 0) hx hb dX10_gluedMany_25 (by decide) ?_
          refine lv_iadd hx hb dX10_gluedMany_26 ?_
          refine lv_istore_n (lv' := [(1, .int (v1_4 + 0)), (0, .ref (a 0)), (2, .int (nI i))]) hx hb dX10_gluedMany_27 rfl hl (by decide) rfl (fun ls hl => ?_)
          refine lv_iinc (v := nI (i + 1)) (lv' := [(2, .int (nI (i + 1))), (1, .int (v1_4 + 0)), (0, .ref (a 0))]) hx hb dX10_gluedMany_28 hl (k := 2) rfl (nI_1 _) (by decide) rfl (fun ls hl => ?_)
          refine lv_goto (tgt := 4) hx hb dX10_gluedMany_31 (by decide) ?_
          exact ih4 (i + 1) (v1_4 + 0) (by omega) (by omega) _ _ hP hD hS ls (lv_sub hl [2, 1, 0] rfl)
        · replace c_2 := bI_t c_2
          refine lv_iconst (v := 1) hx hb dX10_gluedMany_21 (by decide) ?_
          refine lv_goto (tgt := 26) hx hb dX10_gluedMany_22 (by decide) ?_
          refine lv_iadd hx hb dX10_gluedMany_26 ?_
          refine lv_istore_n (lv' := [(1, .int (v1_4 + 1)), (0, .ref (a 0)), (2, .int (nI i))]) hx hb dX10_gluedMany_27 rfl hl (by decide) rfl (fun ls hl => ?_)
          refine lv_iinc (v := nI (i + 1)) (lv' := [(2, .int (nI (i + 1))), (1, .int (v1_4 + 1)), (0, .ref (a 0))]) hx hb dX10_gluedMany_28 hl (k := 2) rfl (nI_1 _) (by decide) rfl (fun ls hl => ?_)
          refine lv_goto (tgt := 4) hx hb dX10_gluedMany_31 (by decide) ?_
          exact ih4 (i + 1) (v1_4 + 1) (by omega) (by omega) _ _ hP hD hS ls (lv_sub hl [2, 1, 0] rfl)
  refine lv_iconst (v := 0) hx hb dX10_gluedMany_0 (by decide) ?_
  refine lv_istore_n (lv' := [(1, .int 0), (0, .ref (a 0))]) hx hb dX10_gluedMany_1 rfl hl (by decide) rfl (fun ls hl => ?_)
  refine lv_iconst (v := 0) hx hb dX10_gluedMany_2 (by decide) ?_
  refine lv_istore_n (lv' := [(2, .int 0), (1, .int 0), (0, .ref (a 0))]) hx hb dX10_gluedMany_3 rfl hl (by decide) rfl (fun ls hl => ?_)
  exact lp4 _ 0 (0 : Int32) (by omega) (Nat.lt_succ_self _) _ _ hP hD hS ls (lv_sub hl [2, 1, 0] rfl)
theorem dX10_told_0 : decode cX10_told 0 = .ok (.aload_n 0, 1) := by decide +kernel
theorem dX10_told_1 : decode cX10_told 1 = .ok (.iload_n 1, 1) := by decide +kernel
set_option maxRecDepth 20000 in
theorem ggX10_told_X10_isStone : GoodIn wsX10_told wsX10_isStone := goodIn_r _ [10, 11, 12, 13, 9, 14, 35, 36, 37, 38, 39, 40, 41, 42, 43, 44, 45, 46, 47, 48, 49, 50, 51, 52, 53, 54, 55, 56, 57, 58, 59, 60, 61, 62, 63, 64] rfl (by decide +kernel)
set_option maxRecDepth 20000 in
theorem gX10_told_X10_isStone : GoodIn wsX10_told (wsV RX10 178 RX10 yX10_isStone wsX10_isStone) := goodIn_app (goodIn_r _ [6, 7, 8, 9] rfl (by decide +kernel)) ggX10_told_X10_isStone
theorem dX10_told_2 : decode cX10_told 2 = .ok (.invokevirtual 178, 3) := by decide +kernel
theorem dX10_told_5 : decode cX10_told 5 = .ok (.ifCond .eq 12, 3) := by decide +kernel
theorem dX10_told_17 : decode cX10_told 17 = .ok (.aload_n 0, 1) := by decide +kernel
theorem dX10_told_18 : decode cX10_told 18 = .ok (.ldc 141, 2) := by decide +kernel
set_option maxRecDepth 20000 in
theorem ggX10_told_X10_finding : GoodIn wsX10_told wsX10_finding := goodIn_r _ [18, 19, 35, 36, 37, 38, 39, 40, 41, 42, 43, 44, 45, 46, 47, 48, 49, 50, 51, 52, 53, 54, 55, 56, 57, 58, 59, 60, 61, 62, 63, 64] rfl (by decide +kernel)
set_option maxRecDepth 20000 in
theorem gX10_told_X10_finding : GoodIn wsX10_told (wsV RX10 99 RX10 yX10_finding wsX10_finding) := goodIn_app (goodIn_r _ [15, 16, 17, 9] rfl (by decide +kernel)) ggX10_told_X10_finding
theorem dX10_told_20 : decode cX10_told 20 = .ok (.invokevirtual 99, 3) := by decide +kernel
theorem dX10_told_23 : decode cX10_told 23 = .ok (.ireturn, 1) := by decide +kernel
theorem dX10_told_8 : decode cX10_told 8 = .ok (.iload_n 2, 1) := by decide +kernel
theorem dX10_told_9 : decode cX10_told 9 = .ok (.iconst 0, 1) := by decide +kernel
theorem dX10_told_10 : decode cX10_told 10 = .ok (.iconst 4, 1) := by decide +kernel
set_option maxRecDepth 20000 in
theorem ggX10_told_X10_within : GoodIn wsX10_told wsX10_within := goodIn_r _ [14] rfl (by decide +kernel)
set_option maxRecDepth 20000 in
theorem gX10_told_X10_within : GoodIn wsX10_told (va_wsS RX10 70 yX10_within wsX10_within) := goodIn_app (goodIn_r _ [12, 13, 9] rfl (by decide +kernel)) ggX10_told_X10_within
theorem dX10_told_11 : decode cX10_told 11 = .ok (.invokestatic 70, 3) := by decide +kernel
theorem dX10_told_14 : decode cX10_told 14 = .ok (.ifCond .ne 10, 3) := by decide +kernel
theorem dX10_told_24 : decode cX10_told 24 = .ok (.iload_n 2, 1) := by decide +kernel
theorem dX10_told_25 : decode cX10_told 25 = .ok (.tableswitch 67 0 3 #[31, 37, 43, 57], 31) := by decide +kernel
theorem dX10_told_56 : decode cX10_told 56 = .ok (.aload_n 0, 1) := by decide +kernel
theorem dX10_told_57 : decode cX10_told 57 = .ok (.iload_n 1, 1) := by decide +kernel
set_option maxRecDepth 20000 in
theorem ggX10_told_X10_kindOf : GoodIn wsX10_told wsX10_kindOf := goodIn_r _ [23, 2, 35, 36, 37, 38, 39, 40, 41, 42, 43, 44, 45, 46, 47, 48, 49, 50, 51, 52, 53, 54, 55, 56, 57, 58, 59, 60, 61, 62, 63, 64] rfl (by decide +kernel)
set_option maxRecDepth 20000 in
theorem gX10_told_X10_kindOf : GoodIn wsX10_told (wsV RX10 103 RX10 yX10_kindOf wsX10_kindOf) := goodIn_app (goodIn_r _ [20, 21, 22, 9] rfl (by decide +kernel)) ggX10_told_X10_kindOf
theorem dX10_told_58 : decode cX10_told 58 = .ok (.invokevirtual 103, 3) := by decide +kernel
theorem dX10_told_61 : decode cX10_told 61 = .ok (.ireturn, 1) := by decide +kernel
theorem dX10_told_62 : decode cX10_told 62 = .ok (.aload_n 0, 1) := by decide +kernel
theorem dX10_told_63 : decode cX10_told 63 = .ok (.iload_n 1, 1) := by decide +kernel
set_option maxRecDepth 20000 in
theorem ggX10_told_X10_fieldOf : GoodIn wsX10_told wsX10_fieldOf := goodIn_r _ [27, 2, 35, 36, 37, 38, 39, 40, 41, 42, 43, 44, 45, 46, 47, 48, 49, 50, 51, 52, 53, 54, 55, 56, 57, 58, 59, 60, 61, 62, 63, 64] rfl (by decide +kernel)
set_option maxRecDepth 20000 in
theorem gX10_told_X10_fieldOf : GoodIn wsX10_told (wsV RX10 115 RX10 yX10_fieldOf wsX10_fieldOf) := goodIn_app (goodIn_r _ [24, 25, 26, 9] rfl (by decide +kernel)) ggX10_told_X10_fieldOf
theorem dX10_told_64 : decode cX10_told 64 = .ok (.invokevirtual 115, 3) := by decide +kernel
theorem dX10_told_67 : decode cX10_told 67 = .ok (.ireturn, 1) := by decide +kernel
theorem dX10_told_68 : decode cX10_told 68 = .ok (.aload_n 0, 1) := by decide +kernel
theorem dX10_told_69 : decode cX10_told 69 = .ok (.iload_n 1, 1) := by decide +kernel
set_option maxRecDepth 20000 in
theorem ggX10_told_X10_isAcross : GoodIn wsX10_told wsX10_isAcross := goodIn_r _ [31, 2, 35, 36, 37, 38, 39, 40, 41, 42, 43, 44, 45, 46, 47, 48, 49, 50, 51, 52, 53, 54, 55, 56, 57, 58, 59, 60, 61, 62, 63, 64] rfl (by decide +kernel)
set_option maxRecDepth 20000 in
theorem gX10_told_X10_isAcross : GoodIn wsX10_told (wsV RX10 118 RX10 yX10_isAcross wsX10_isAcross) := goodIn_app (goodIn_r _ [28, 29, 30, 9] rfl (by decide +kernel)) ggX10_told_X10_isAcross
theorem dX10_told_70 : decode cX10_told 70 = .ok (.invokevirtual 118, 3) := by decide +kernel
theorem dX10_told_73 : decode cX10_told 73 = .ok (.ifCond .eq 7, 3) := by decide +kernel
theorem dX10_told_80 : decode cX10_told 80 = .ok (.iconst 0, 1) := by decide +kernel
theorem dX10_told_81 : decode cX10_told 81 = .ok (.ireturn, 1) := by decide +kernel
theorem dX10_told_76 : decode cX10_told 76 = .ok (.iconst 1, 1) := by decide +kernel
theorem dX10_told_77 : decode cX10_told 77 = .ok (.goto 4, 3) := by decide +kernel
theorem dX10_told_82 : decode cX10_told 82 = .ok (.aload_n 0, 1) := by decide +kernel
theorem dX10_told_83 : decode cX10_told 83 = .ok (.getfield 9, 3) := by decide +kernel
theorem dX10_told_86 : decode cX10_told 86 = .ok (.iload_n 1, 1) := by decide +kernel
theorem dX10_told_87 : decode cX10_told 87 = .ok (.iaload, 1) := by decide +kernel
theorem dX10_told_88 : decode cX10_told 88 = .ok (.bipush 9, 2) := by decide +kernel
theorem dX10_told_90 : decode cX10_told 90 = .ok (.ishr, 1) := by decide +kernel
theorem dX10_told_91 : decode cX10_told 91 = .ok (.ireturn, 1) := by decide +kernel
theorem dX10_told_92 : decode cX10_told 92 = .ok (.aload_n 0, 1) := by decide +kernel
theorem dX10_told_93 : decode cX10_told 93 = .ok (.getfield 88, 3) := by decide +kernel
theorem dX10_told_96 : decode cX10_told 96 = .ok (.ifCond .ne 7, 3) := by decide +kernel
theorem dX10_told_103 : decode cX10_told 103 = .ok (.aload_n 0, 1) := by decide +kernel
theorem dX10_told_104 : decode cX10_told 104 = .ok (.iload_n 1, 1) := by decide +kernel
theorem dX10_told_105 : decode cX10_told 105 = .ok (.invokevirtual 118, 3) := by decide +kernel
theorem dX10_told_108 : decode cX10_told 108 = .ok (.ifCond .eq 10, 3) := by decide +kernel
theorem dX10_told_118 : decode cX10_told 118 = .ok (.aload_n 0, 1) := by decide +kernel
theorem dX10_told_119 : decode cX10_told 119 = .ok (.getfield 92, 3) := by decide +kernel
theorem dX10_told_122 : decode cX10_told 122 = .ok (.aload_n 0, 1) := by decide +kernel
theorem dX10_told_123 : decode cX10_told 123 = .ok (.iload_n 1, 1) := by decide +kernel
theorem dX10_told_124 : decode cX10_told 124 = .ok (.invokevirtual 115, 3) := by decide +kernel
set_option maxRecDepth 20000 in
theorem ggX10_told_X10_hasBit : GoodIn wsX10_told wsX10_hasBit := goodIn_r _ [34] rfl (by decide +kernel)
set_option maxRecDepth 20000 in
theorem gX10_told_X10_hasBit : GoodIn wsX10_told (va_wsS RX10 74 yX10_hasBit wsX10_hasBit) := goodIn_app (goodIn_r _ [32, 33, 9] rfl (by decide +kernel)) ggX10_told_X10_hasBit
theorem dX10_told_127 : decode cX10_told 127 = .ok (.invokestatic 74, 3) := by decide +kernel
theorem dX10_told_130 : decode cX10_told 130 = .ok (.ifCond .eq 7, 3) := by decide +kernel
theorem dX10_told_137 : decode cX10_told 137 = .ok (.iconst 0, 1) := by decide +kernel
theorem dX10_told_138 : decode cX10_told 138 = .ok (.ireturn, 1) := by decide +kernel
theorem dX10_told_133 : decode cX10_told 133 = .ok (.iconst 1, 1) := by decide +kernel
theorem dX10_told_134 : decode cX10_told 134 = .ok (.goto 4, 3) := by decide +kernel
theorem dX10_told_111 : decode cX10_told 111 = .ok (.aload_n 0, 1) := by decide +kernel
theorem dX10_told_112 : decode cX10_told 112 = .ok (.getfield 95, 3) := by decide +kernel
theorem dX10_told_115 : decode cX10_told 115 = .ok (.goto 7, 3) := by decide +kernel
theorem dX10_told_99 : decode cX10_told 99 = .ok (.iconst (-1), 1) := by decide +kernel
theorem dX10_told_100 : decode cX10_told 100 = .ok (.goto 38, 3) := by decide +kernel
set_option maxRecDepth 20000 in
theorem ihX10_told_10 : ∀ w ∈ u_ws RX10 TX10 30, w ∈ wsX10_told := fun _ h => List.mem_cons_of_mem _ (List.mem_append_right _ h)
set_option maxHeartbeats 4000000 in
set_option maxRecDepth 100000 in
theorem t_X10_told (l : Launch) (D : va_G) (cy : Nat → ClassId) (a : Nat → Nat) (sz : Nat) (J : Nat → Int64) (I : Nat → Int32) (R : Nat → Nat → Int32) (RJ : Nat → Nat → Int64) (x0 : Int32) (x1 : Int32) (hM : MI I R) : Met l yX10_told wsX10_told ({ frames := 2, cells := 0, slots := 0, locals := 43 }) (va_Pc [.ref (a 0), .int x0, .int x1] (PW D cy sz (MW cy a J I R RJ))) (va_Qi (fun r (u : MS) => ∃ (w0 : Int32), (True) ∧ u = (J, (va_up I 13 w0), R, RJ)) (BW D (va_A (MW cy a J I R RJ) sz) (MWu cy a)) (va_A (MW cy a J I R RJ) sz)) 0 0 (va_A (MW cy a J I R RJ) sz) := by
  refine Met.ofW (cc := cX10_told) (maxL := 3) (ret := (some .int)) (by decide) rfl ?_
  intro p e s m args below meth c s₁ B hml hv
  obtain ⟨rfl, rfl, hP, hK, hN, hD0⟩ := hv
  have hx := B.exec
  have hb := B.bytes
  have hr := B.returns
  have hts := atoms_spec (ws := wsX10_told) B.pre
  have hown : s.vm.findClass RX10 = some m.cls := findClass_of_methodNamed B.named
  have hlocks := B.notSynchronized
  have hw0 := hts (.constant RX10 141 (-100001)) (by decide +kernel)
  have hw1 := hts (.fieldLink RX10 9 "ParquetLayerModel" "stone" "[I") (by decide +kernel)
  have hw2 := hts (.fieldLink RX10 88 "ParquetLayerModel" "isLaid" "Z") (by decide +kernel)
  have hw3 := hts (.fieldLink RX10 92 "ParquetLayerModel" "along" "J") (by decide +kernel)
  have hw4 := hts (.fieldLink RX10 95 "ParquetLayerModel" "across" "J") (by decide +kernel)
  have hi10 := ihX10_told_10
  have hD := hD0.self (sz := s.heap.size)
  generalize hAe : va_A (MW cy a J I R RJ) s.heap.size = A at hD ⊢
  have hA : ∀ q : Nat, s.heap.size ≤ q → A q := fun q h => by rw [← hAe]; exact Or.inr h
  have hS : va_S A s.heap s.heap [] := va_S.rf
  have hl := lv_entry ([.ref (a 0), .int x0, .int x1]) (n := 3) (Nat.le_of_ble_eq_true rfl)
  rw [lg_entry_eq]
  generalize (lg_sl ([.ref (a 0), .int x0, .int x1]) ++ List.replicate (3 - (lg_sl ([.ref (a 0), .int x0, .int x1])).length) Slot.unset).toArray = ls at hl ⊢
  have hl : lv_has ls 3 [(0, .ref (a 0)), (1, .int x0), (2, .int x1)] := hl
  have hP : va_P D vwCl (MW cy a J (va_up I 13 (I 13)) R RJ) s.heap := hP
  have hD : va_D A (MW cy a J (va_up I 13 (I 13)) R RJ) := hD
  refine lv_aload_n hx hb dX10_told_0 rfl (lv_at hl 0 rfl) ?_
  refine lv_iload_n hx hb dX10_told_1 rfl (lv_at hl 1 rfl) ?_
  refine kR_i (As := [.int x0]) (rest := []) (q0 := 0) ⟨hx, hb, hml, hown, hts⟩ (c_X10_isStone l D cy a _ J (va_up I 13 (I 13)) R RJ x0 ) (cwV 1 hts gX10_told_X10_isStone rfl rfl rfl (by decide +kernel) ⟨Nat.le_of_ble_eq_true rfl, Nat.le_of_ble_eq_true rfl⟩) hK hN hP hD rfl rfl rfl hl.1 rfl (Nat.le_of_ble_eq_true rfl) dX10_told_2 ⟨Nat.le_of_ble_eq_true rfl, Nat.le_of_ble_eq_true rfl⟩ ?_
  refine lv_if_eq (tgt := 17) hx hb dX10_told_5 (by decide) (fun c_1 => ?_) (fun c_1 => ?_)
  · replace c_1 := bI_f c_1
    refine lv_aload_n hx hb dX10_told_17 rfl (lv_at hl 0 rfl) ?_
    refine lv_ldc (v := (-100001)) hx hb hown hw0 dX10_told_18 ?_
    refine kM_i (As := [.int (-100001)]) (rest := []) (q0 := 0) ⟨hx, hb, hml, hown, hts⟩ (c_X10_finding l D cy a _ J (va_up I 13 (I 13)) R RJ (-100001) ) (cwV 1 hts gX10_told_X10_finding rfl rfl rfl (by decide +kernel) ⟨Nat.le_of_ble_eq_true rfl, Nat.le_of_ble_eq_true rfl⟩) hK hN hP hD hS hA rfl rfl rfl hl.1 rfl (Nat.le_of_ble_eq_true rfl) dX10_told_20 ⟨Nat.le_of_ble_eq_true rfl, Nat.le_of_ble_eq_true rfl⟩ (fun r_2 u H locs hw hP hD hS => ?_)
    obtain ⟨rfl, rfl⟩ := hw
    have hP : va_P D vwCl (MW cy a J (va_up I 13 ((I 13) + 1)) R RJ) H := hP
    have hD : va_D A (MW cy a J (va_up I 13 ((I 13) + 1)) R RJ) := hD
    exact wret_i hx hb hr hlocks (J, (va_up I 13 ((I 13) + 1)), R, RJ) ⟨((I 13) + 1), trivial, rfl⟩ hP hD hS dX10_told_23
  · replace c_1 := bI_t c_1
    refine lv_iload_n hx hb dX10_told_8 rfl (lv_at hl 2 rfl) ?_
    refine lv_iconst (v := 0) hx hb dX10_told_9 (by decide) ?_
    refine lv_iconst (v := 4) hx hb dX10_told_10 (by decide) ?_
    refine kS_i (As := [.int x1, .int 0, .int 4]) (rest := []) ⟨hx, hb, hml, hown, hts⟩ (c_X10_within l x1 0 4) (va_cwS 3 hts gX10_told_X10_within rfl rfl rfl (by decide +kernel) ⟨Nat.le_of_ble_eq_true rfl, Nat.le_of_ble_eq_true rfl⟩) rfl hl.1 rfl (Nat.le_of_ble_eq_true rfl) dX10_told_11 ⟨Nat.le_of_ble_eq_true rfl, Nat.le_of_ble_eq_true rfl⟩ ?_
    refine lv_if_ne (tgt := 24) hx hb dX10_told_14 (by decide) (fun c_3 => ?_) (fun c_3 => ?_)
    · replace c_3 := bI_t c_3
      refine lv_iload_n hx hb dX10_told_24 rfl (lv_at hl 2 rfl) ?_
      by_cases c_4 : x1 = 0
      · refine lv_tableIn (off := 31) (tgt := 56) hx hb dX10_told_25 (by rw [c_4]; decide) (by rw [c_4]; decide) (by rw [c_4]; rfl) (by decide) ?_
        refine lv_aload_n hx hb dX10_told_56 rfl (lv_at hl 0 rfl) ?_
        refine lv_iload_n hx hb dX10_told_57 rfl (lv_at hl 1 rfl) ?_
        refine kR_i (As := [.int x0]) (rest := []) (q0 := 0) ⟨hx, hb, hml, hown, hts⟩ (c_X10_kindOf l D cy a _ J (va_up I 13 (I 13)) R RJ x0 (st_in hM.1 c_1)) (cwV 1 hts gX10_told_X10_kindOf rfl rfl rfl (by decide +kernel) ⟨Nat.le_of_ble_eq_true rfl, Nat.le_of_ble_eq_true rfl⟩) hK hN hP hD rfl rfl rfl hl.1 rfl (Nat.le_of_ble_eq_true rfl) dX10_told_58 ⟨Nat.le_of_ble_eq_true rfl, Nat.le_of_ble_eq_true rfl⟩ ?_
        exact wret_i hx hb hr hlocks (J, (va_up I 13 (I 13)), R, RJ) ⟨(I 13), trivial, rfl⟩ hP hD hS dX10_told_61
      by_cases c_5 : x1 = 1
      · refine lv_tableIn (off := 37) (tgt := 62) hx hb dX10_told_25 (by rw [c_5]; decide) (by rw [c_5]; decide) (by rw [c_5]; rfl) (by decide) ?_
        refine lv_aload_n hx hb dX10_told_62 rfl (lv_at hl 0 rfl) ?_
        refine lv_iload_n hx hb dX10_told_63 rfl (lv_at hl 1 rfl) ?_
        refine kR_i (As := [.int x0]) (rest := []) (q0 := 0) ⟨hx, hb, hml, hown, hts⟩ (c_X10_fieldOf l D cy a _ J (va_up I 13 (I 13)) R RJ x0 (st_in hM.1 c_1)) (cwV 1 hts gX10_told_X10_fieldOf rfl rfl rfl (by decide +kernel) ⟨Nat.le_of_ble_eq_true rfl, Nat.le_of_ble_eq_true rfl⟩) hK hN hP hD rfl rfl rfl hl.1 rfl (Nat.le_of_ble_eq_true rfl) dX10_told_64 ⟨Nat.le_of_ble_eq_true rfl, Nat.le_of_ble_eq_true rfl⟩ ?_
        exact wret_i hx hb hr hlocks (J, (va_up I 13 (I 13)), R, RJ) ⟨(I 13), trivial, rfl⟩ hP hD hS dX10_told_67
      by_cases c_6 : x1 = 2
      · refine lv_tableIn (off := 43) (tgt := 68) hx hb dX10_told_25 (by rw [c_6]; decide) (by rw [c_6]; decide) (by rw [c_6]; rfl) (by decide) ?_
        refine lv_aload_n hx hb dX10_told_68 rfl (lv_at hl 0 rfl) ?_
        refine lv_iload_n hx hb dX10_told_69 rfl (lv_at hl 1 rfl) ?_
        refine kR_i (As := [.int x0]) (rest := []) (q0 := 0) ⟨hx, hb, hml, hown, hts⟩ (c_X10_isAcross l D cy a _ J (va_up I 13 (I 13)) R RJ x0 (st_in hM.1 c_1)) (cwV 1 hts gX10_told_X10_isAcross rfl rfl rfl (by decide +kernel) ⟨Nat.le_of_ble_eq_true rfl, Nat.le_of_ble_eq_true rfl⟩) hK hN hP hD rfl rfl rfl hl.1 rfl (Nat.le_of_ble_eq_true rfl) dX10_told_70 ⟨Nat.le_of_ble_eq_true rfl, Nat.le_of_ble_eq_true rfl⟩ ?_
        refine lv_if_eq (tgt := 80) hx hb dX10_told_73 (by decide) (fun c_7 => ?_) (fun c_7 => ?_)
        · replace c_7 := bI_f c_7
          refine lv_iconst (v := 0) hx hb dX10_told_80 (by decide) ?_
          exact wret_i hx hb hr hlocks (J, (va_up I 13 (I 13)), R, RJ) ⟨(I 13), trivial, rfl⟩ hP hD hS dX10_told_81
        · replace c_7 := bI_t c_7
          refine lv_iconst (v := 1) hx hb dX10_told_76 (by decide) ?_
          refine lv_goto (tgt := 81) hx hb dX10_told_77 (by decide) ?_
          exact wret_i hx hb hr hlocks (J, (va_up I 13 (I 13)), R, RJ) ⟨(I 13), trivial, rfl⟩ hP hD hS dX10_told_81
      by_cases c_8 : x1 = 3
      · refine lv_tableIn (off := 57) (tgt := 82) hx hb dX10_told_25 (by rw [c_8]; decide) (by rw [c_8]; decide) (by rw [c_8]; rfl) (by decide) ?_
        refine lv_aload_n hx hb dX10_told_82 rfl (lv_at hl 0 rfl) ?_
        refine va_get (D := D) (ci := 9) (v := .ref (a 1)) (C := RX10) (T := TX10) (N := 30) hx hb hts hi10 hown hK hP 0 rfl rfl 2 (by decide) hw1 (fun _ h9 => h9) rfl dX10_told_83 ?_
        refine lv_iload_n hx hb dX10_told_86 rfl (lv_at hl 1 rfl) ?_
        refine va_iald hx hb hK hP 1 0 rfl rfl (st_in hM.1 c_1) dX10_told_87 ?_
        refine lv_bipush (v := 9) hx hb dX10_told_88 (by decide) ?_
        refine lv_ishr hx hb dX10_told_90 ?_
        exact wret_i hx hb hr hlocks (J, (va_up I 13 (I 13)), R, RJ) ⟨(I 13), trivial, rfl⟩ hP hD hS dX10_told_91
      refine lv_tableOut (tgt := 92) hx hb dX10_told_25 (sw_out 0 3 (by decide) (by decide) (fun k hk1 hk2 => by have hq : k = 0 ∨ k = 1 ∨ k = 2 ∨ k = 3 := (by omega); rcases hq with rfl | rfl | rfl | rfl <;> assumption)) (by decide) ?_
      refine lv_aload_n hx hb dX10_told_92 rfl (lv_at hl 0 rfl) ?_
      refine va_get (D := D) (ci := 9) (v := .int (I 3)) (C := RX10) (T := TX10) (N := 30) hx hb hts hi10 hown hK hP 0 rfl rfl 3 (by decide) hw2 (fun _ h9 => h9) rfl dX10_told_93 ?_
      refine lv_if_ne (tgt := 103) hx hb dX10_told_96 (by decide) (fun c_9 => ?_) (fun c_9 => ?_)
      · refine lv_aload_n hx hb dX10_told_103 rfl (lv_at hl 0 rfl) ?_
        refine lv_iload_n hx hb dX10_told_104 rfl (lv_at hl 1 rfl) ?_
        refine kR_i (As := [.int x0]) (rest := []) (q0 := 0) ⟨hx, hb, hml, hown, hts⟩ (c_X10_isAcross l D cy a _ J (va_up I 13 (I 13)) R RJ x0 (st_in hM.1 c_1)) (cwV 1 hts gX10_told_X10_isAcross rfl rfl rfl (by decide +kernel) ⟨Nat.le_of_ble_eq_true rfl, Nat.le_of_ble_eq_true rfl⟩) hK hN hP hD rfl rfl rfl hl.1 rfl (Nat.le_of_ble_eq_true rfl) dX10_told_105 ⟨Nat.le_of_ble_eq_true rfl, Nat.le_of_ble_eq_true rfl⟩ ?_
        refine lv_if_eq (tgt := 118) hx hb dX10_told_108 (by decide) (fun c_10 => ?_) (fun c_10 => ?_)
        · replace c_10 := bI_f c_10
          refine lv_aload_n hx hb dX10_told_118 rfl (lv_at hl 0 rfl) ?_
          refine va_get (D := D) (ci := 9) (v := .long (J 4)) (C := RX10) (T := TX10) (N := 30) hx hb hts hi10 hown hK hP 0 rfl rfl 4 (by decide) hw3 (fun _ h9 => h9) rfl dX10_told_119 ?_
          refine lv_aload_n hx hb dX10_told_122 rfl (lv_at hl 0 rfl) ?_
          refine lv_iload_n hx hb dX10_told_123 rfl (lv_at hl 1 rfl) ?_
          refine kR_i (As := [.int x0]) (rest := [.long (J 4)]) (q0 := 0) ⟨hx, hb, hml, hown, hts⟩ (c_X10_fieldOf l D cy a _ J (va_up I 13 (I 13)) R RJ x0 (st_in hM.1 c_1)) (cwV 1 hts gX10_told_X10_fieldOf rfl rfl rfl (by decide +kernel) ⟨Nat.le_of_ble_eq_true rfl, Nat.le_of_ble_eq_true rfl⟩) hK hN hP hD rfl rfl rfl hl.1 rfl (Nat.le_of_ble_eq_true rfl) dX10_told_124 ⟨Nat.le_of_ble_eq_true rfl, Nat.le_of_ble_eq_true rfl⟩ ?_
          refine kS_i (As := [.long (J 4), .int ((((R 1) x0.toNatClampNeg) >>> ((2 : Int32) &&& 31)) &&& 63)]) (rest := []) ⟨hx, hb, hml, hown, hts⟩ (c_X10_hasBit l (J 4) ((((R 1) x0.toNatClampNeg) >>> ((2 : Int32) &&& 31)) &&& 63)) (va_cwS 2 hts gX10_told_X10_hasBit rfl rfl rfl (by decide +kernel) ⟨Nat.le_of_ble_eq_true rfl, Nat.le_of_ble_eq_true rfl⟩) rfl hl.1 rfl (Nat.le_of_ble_eq_true rfl) dX10_told_127 ⟨Nat.le_of_ble_eq_true rfl, Nat.le_of_ble_eq_true rfl⟩ ?_
          refine lv_if_eq (tgt := 137) hx hb dX10_told_130 (by decide) (fun c_11 => ?_) (fun c_11 => ?_)
          · replace c_11 := bI_f c_11
            refine lv_iconst (v := 0) hx hb dX10_told_137 (by decide) ?_
            exact wret_i hx hb hr hlocks (J, (va_up I 13 (I 13)), R, RJ) ⟨(I 13), trivial, rfl⟩ hP hD hS dX10_told_138
          · replace c_11 := bI_t c_11
            refine lv_iconst (v := 1) hx hb dX10_told_133 (by decide) ?_
            refine lv_goto (tgt := 138) hx hb dX10_told_134 (by decide) ?_
            exact wret_i hx hb hr hlocks (J, (va_up I 13 (I 13)), R, RJ) ⟨(I 13), trivial, rfl⟩ hP hD hS dX10_told_138
        · replace c_10 := bI_t c_10
          refine lv_aload_n hx hb dX10_told_111 rfl (lv_at hl 0 rfl) ?_
          refine va_get (D := D) (ci := 9) (v := .long (J 5)) (C := RX10) (T := TX10) (N := 30) hx hb hts hi10 hown hK hP 0 rfl rfl 5 (by decide) hw4 (fun _ h9 => h9) rfl dX10_told_112 ?_
          refine lv_goto (tgt := 122) hx hb dX10_told_115 (by decide) ?_
          refine lv_aload_n hx hb dX10_told_122 rfl (lv_at hl 0 rfl) ?_
          refine lv_iload_n hx hb dX10_told_123 rfl (lv_at hl 1 rfl) ?_
          refine kR_i (As := [.int x0]) (rest := [.long (J 5)]) (q0 := 0) ⟨hx, hb, hml, hown, hts⟩ (c_X10_fieldOf l D cy a _ J (va_up I 13 (I 13)) R RJ x0 (st_in hM.1 c_1)) (cwV 1 hts gX10_told_X10_fieldOf rfl rfl rfl (by decide +kernel) ⟨Nat.le_of_ble_eq_true rfl, Nat.le_of_ble_eq_true rfl⟩) hK hN hP hD rfl rfl rfl hl.1 rfl (Nat.le_of_ble_eq_true rfl) dX10_told_124 ⟨Nat.le_of_ble_eq_true rfl, Nat.le_of_ble_eq_true rfl⟩ ?_
          refine kS_i (As := [.long (J 5), .int ((((R 1) x0.toNatClampNeg) >>> ((2 : Int32) &&& 31)) &&& 63)]) (rest := []) ⟨hx, hb, hml, hown, hts⟩ (c_X10_hasBit l (J 5) ((((R 1) x0.toNatClampNeg) >>> ((2 : Int32) &&& 31)) &&& 63)) (va_cwS 2 hts gX10_told_X10_hasBit rfl rfl rfl (by decide +kernel) ⟨Nat.le_of_ble_eq_true rfl, Nat.le_of_ble_eq_true rfl⟩) rfl hl.1 rfl (Nat.le_of_ble_eq_true rfl) dX10_told_127 ⟨Nat.le_of_ble_eq_true rfl, Nat.le_of_ble_eq_true rfl⟩ ?_
          refine lv_if_eq (tgt := 137) hx hb dX10_told_130 (by decide) (fun c_12 => ?_) (fun c_12 => ?_)
          · replace c_12 := bI_f c_12
            refine lv_iconst (v := 0) hx hb dX10_told_137 (by decide) ?_
            exact wret_i hx hb hr hlocks (J, (va_up I 13 (I 13)), R, RJ) ⟨(I 13), trivial, rfl⟩ hP hD hS dX10_told_138
          · replace c_12 := bI_t c_12
            refine lv_iconst (v := 1) hx hb dX10_told_133 (by decide) ?_
            refine lv_goto (tgt := 138) hx hb dX10_told_134 (by decide) ?_
            exact wret_i hx hb hr hlocks (J, (va_up I 13 (I 13)), R, RJ) ⟨(I 13), trivial, rfl⟩ hP hD hS dX10_told_138
      · refine lv_iconst (v := (-1)) hx hb dX10_told_99 (by decide) ?_
        refine lv_goto (tgt := 138) hx hb dX10_told_100 (by decide) ?_
        exact wret_i hx hb hr hlocks (J, (va_up I 13 (I 13)), R, RJ) ⟨(I 13), trivial, rfl⟩ hP hD hS dX10_told_138
    · replace c_3 := bI_f c_3
      refine lv_aload_n hx hb dX10_told_17 rfl (lv_at hl 0 rfl) ?_
      refine lv_ldc (v := (-100001)) hx hb hown hw0 dX10_told_18 ?_
      refine kM_i (As := [.int (-100001)]) (rest := []) (q0 := 0) ⟨hx, hb, hml, hown, hts⟩ (c_X10_finding l D cy a _ J (va_up I 13 (I 13)) R RJ (-100001) ) (cwV 1 hts gX10_told_X10_finding rfl rfl rfl (by decide +kernel) ⟨Nat.le_of_ble_eq_true rfl, Nat.le_of_ble_eq_true rfl⟩) hK hN hP hD hS hA rfl rfl rfl hl.1 rfl (Nat.le_of_ble_eq_true rfl) dX10_told_20 ⟨Nat.le_of_ble_eq_true rfl, Nat.le_of_ble_eq_true rfl⟩ (fun r_13 u H locs hw hP hD hS => ?_)
      obtain ⟨rfl, rfl⟩ := hw
      have hP : va_P D vwCl (MW cy a J (va_up I 13 ((I 13) + 1)) R RJ) H := hP
      have hD : va_D A (MW cy a J (va_up I 13 ((I 13) + 1)) R RJ) := hD
      exact wret_i hx hb hr hlocks (J, (va_up I 13 ((I 13) + 1)), R, RJ) ⟨((I 13) + 1), trivial, rfl⟩ hP hD hS dX10_told_23
