theorem dX10_sheet_85 : decode cX10_sheet 85 = .ok (.iload 4, 2) := by decide +kernel
theorem dX10_sheet_87 : decode cX10_sheet 87 = .ok (.bipush 16, 2) := by decide +kernel
theorem dX10_sheet_89 : decode cX10_sheet 89 = .ok (.if_icmp .ge 22, 3) := by decide +kernel
theorem dX10_sheet_111 : decode cX10_sheet 111 = .ok (.aload_n 0, 1) := by decide +kernel
theorem dX10_sheet_112 : decode cX10_sheet 112 = .ok (.getfield 36, 3) := by decide +kernel
theorem dX10_sheet_115 : decode cX10_sheet 115 = .ok (.iload_n 1, 1) := by decide +kernel
theorem dX10_sheet_116 : decode cX10_sheet 116 = .ok (.iaload, 1) := by decide +kernel
theorem dX10_sheet_117 : decode cX10_sheet 117 = .ok (.ireturn, 1) := by decide +kernel
theorem dX10_sheet_92 : decode cX10_sheet 92 = .ok (.aload_n 0, 1) := by decide +kernel
theorem dX10_sheet_93 : decode cX10_sheet 93 = .ok (.getfield 39, 3) := by decide +kernel
theorem dX10_sheet_96 : decode cX10_sheet 96 = .ok (.bipush 16, 2) := by decide +kernel
theorem dX10_sheet_98 : decode cX10_sheet 98 = .ok (.iload_n 1, 1) := by decide +kernel
theorem dX10_sheet_99 : decode cX10_sheet 99 = .ok (.imul, 1) := by decide +kernel
theorem dX10_sheet_100 : decode cX10_sheet 100 = .ok (.iload 4, 2) := by decide +kernel
theorem dX10_sheet_102 : decode cX10_sheet 102 = .ok (.iadd, 1) := by decide +kernel
theorem dX10_sheet_103 : decode cX10_sheet 103 = .ok (.iconst 0, 1) := by decide +kernel
theorem dX10_sheet_104 : decode cX10_sheet 104 = .ok (.iastore, 1) := by decide +kernel
theorem dX10_sheet_105 : decode cX10_sheet 105 = .ok (.iinc 4 1, 3) := by decide +kernel
theorem dX10_sheet_108 : decode cX10_sheet 108 = .ok (.goto (-23), 3) := by decide +kernel
theorem dX10_sheet_0 : decode cX10_sheet 0 = .ok (.iload_n 1, 1) := by decide +kernel
set_option maxRecDepth 20000 in
theorem ggX10_sheet_X10_isSheet : GoodIn wsX10_sheet wsX10_isSheet := goodIn_r _ [9, 10, 11, 8, 12] rfl (by decide +kernel)
set_option maxRecDepth 20000 in
theorem gX10_sheet_X10_isSheet : GoodIn wsX10_sheet (va_wsS RX10 298 yX10_isSheet wsX10_isSheet) := goodIn_app (goodIn_r _ [6, 7, 8] rfl (by decide +kernel)) ggX10_sheet_X10_isSheet
theorem dX10_sheet_1 : decode cX10_sheet 1 = .ok (.invokestatic 298, 3) := by decide +kernel
theorem dX10_sheet_4 : decode cX10_sheet 4 = .ok (.ifCond .eq 25, 3) := by decide +kernel
theorem dX10_sheet_29 : decode cX10_sheet 29 = .ok (.aload_n 0, 1) := by decide +kernel
theorem dX10_sheet_30 : decode cX10_sheet 30 = .ok (.ldc 141, 2) := by decide +kernel
set_option maxRecDepth 20000 in
theorem ggX10_sheet_X10_finding : GoodIn wsX10_sheet wsX10_finding := goodIn_r _ [16, 17, 18, 19, 20, 21, 22, 23, 24, 25, 26, 27, 28, 29, 30, 31, 32, 33, 34, 35, 36, 37, 38, 39, 40, 41, 42, 43, 44, 45, 46, 47] rfl (by decide +kernel)
set_option maxRecDepth 20000 in
theorem gX10_sheet_X10_finding : GoodIn wsX10_sheet (wsV RX10 99 RX10 yX10_finding wsX10_finding) := goodIn_app (goodIn_r _ [13, 14, 15, 8] rfl (by decide +kernel)) ggX10_sheet_X10_finding
theorem dX10_sheet_32 : decode cX10_sheet 32 = .ok (.invokevirtual 99, 3) := by decide +kernel
theorem dX10_sheet_35 : decode cX10_sheet 35 = .ok (.ireturn, 1) := by decide +kernel
theorem dX10_sheet_7 : decode cX10_sheet 7 = .ok (.iload_n 2, 1) := by decide +kernel
theorem dX10_sheet_8 : decode cX10_sheet 8 = .ok (.ifCond .eq 28, 3) := by decide +kernel
theorem dX10_sheet_36 : decode cX10_sheet 36 = .ok (.iload_n 3, 1) := by decide +kernel
theorem dX10_sheet_37 : decode cX10_sheet 37 = .ok (.ifCond .ge 10, 3) := by decide +kernel
theorem dX10_sheet_47 : decode cX10_sheet 47 = .ok (.iload_n 3, 1) := by decide +kernel
theorem dX10_sheet_48 : decode cX10_sheet 48 = .ok (.bipush 16, 2) := by decide +kernel
theorem dX10_sheet_50 : decode cX10_sheet 50 = .ok (.if_icmp .le 10, 3) := by decide +kernel
theorem dX10_sheet_60 : decode cX10_sheet 60 = .ok (.aload_n 0, 1) := by decide +kernel
theorem dX10_sheet_61 : decode cX10_sheet 61 = .ok (.getfield 33, 3) := by decide +kernel
theorem dX10_sheet_64 : decode cX10_sheet 64 = .ok (.iload_n 1, 1) := by decide +kernel
theorem dX10_sheet_65 : decode cX10_sheet 65 = .ok (.iload_n 2, 1) := by decide +kernel
theorem dX10_sheet_66 : decode cX10_sheet 66 = .ok (.iastore, 1) := by decide +kernel
theorem dX10_sheet_67 : decode cX10_sheet 67 = .ok (.aload_n 0, 1) := by decide +kernel
theorem dX10_sheet_68 : decode cX10_sheet 68 = .ok (.getfield 36, 3) := by decide +kernel
theorem dX10_sheet_71 : decode cX10_sheet 71 = .ok (.iload_n 1, 1) := by decide +kernel
theorem dX10_sheet_72 : decode cX10_sheet 72 = .ok (.iload_n 2, 1) := by decide +kernel
theorem dX10_sheet_73 : decode cX10_sheet 73 = .ok (.ifCond .ne 7, 3) := by decide +kernel
theorem dX10_sheet_80 : decode cX10_sheet 80 = .ok (.iload_n 3, 1) := by decide +kernel
theorem dX10_sheet_81 : decode cX10_sheet 81 = .ok (.iastore, 1) := by decide +kernel
theorem dX10_sheet_82 : decode cX10_sheet 82 = .ok (.iconst 0, 1) := by decide +kernel
theorem dX10_sheet_83 : decode cX10_sheet 83 = .ok (.istore 4, 2) := by decide +kernel
theorem dX10_sheet_76 : decode cX10_sheet 76 = .ok (.iconst 0, 1) := by decide +kernel
theorem dX10_sheet_77 : decode cX10_sheet 77 = .ok (.goto 4, 3) := by decide +kernel
theorem dX10_sheet_53 : decode cX10_sheet 53 = .ok (.aload_n 0, 1) := by decide +kernel
theorem dX10_sheet_54 : decode cX10_sheet 54 = .ok (.ldc 141, 2) := by decide +kernel
theorem dX10_sheet_56 : decode cX10_sheet 56 = .ok (.invokevirtual 99, 3) := by decide +kernel
theorem dX10_sheet_59 : decode cX10_sheet 59 = .ok (.ireturn, 1) := by decide +kernel
theorem dX10_sheet_40 : decode cX10_sheet 40 = .ok (.aload_n 0, 1) := by decide +kernel
theorem dX10_sheet_41 : decode cX10_sheet 41 = .ok (.ldc 176, 2) := by decide +kernel
theorem dX10_sheet_43 : decode cX10_sheet 43 = .ok (.invokevirtual 99, 3) := by decide +kernel
theorem dX10_sheet_46 : decode cX10_sheet 46 = .ok (.ireturn, 1) := by decide +kernel
theorem dX10_sheet_11 : decode cX10_sheet 11 = .ok (.iload_n 2, 1) := by decide +kernel
theorem dX10_sheet_12 : decode cX10_sheet 12 = .ok (.bipush 8, 2) := by decide +kernel
theorem dX10_sheet_14 : decode cX10_sheet 14 = .ok (.if_icmp .eq 22, 3) := by decide +kernel
theorem dX10_sheet_17 : decode cX10_sheet 17 = .ok (.iload_n 2, 1) := by decide +kernel
theorem dX10_sheet_18 : decode cX10_sheet 18 = .ok (.bipush 16, 2) := by decide +kernel
theorem dX10_sheet_20 : decode cX10_sheet 20 = .ok (.if_icmp .eq 16, 3) := by decide +kernel
theorem dX10_sheet_23 : decode cX10_sheet 23 = .ok (.iload_n 2, 1) := by decide +kernel
theorem dX10_sheet_24 : decode cX10_sheet 24 = .ok (.bipush 32, 2) := by decide +kernel
theorem dX10_sheet_26 : decode cX10_sheet 26 = .ok (.if_icmp .eq 10, 3) := by decide +kernel
set_option maxRecDepth 20000 in
theorem ihX10_sheet_10 : ∀ w ∈ u_ws RX10 TX10 30, w ∈ wsX10_sheet := fun _ h => List.mem_cons_of_mem _ (List.mem_append_right _ h)
set_option maxHeartbeats 4000000 in
set_option maxRecDepth 100000 in
theorem x_X10_sheet (l : Launch) (D : va_G) (cy : Nat → ClassId) (a : Nat → Nat) (sz : Nat) (J : Nat → Int64) (I : Nat → Int32) (R : Nat → Nat → Int32) (RJ : Nat → Nat → Int64) (x0 : Int32) (x1 : Int32) (x2 : Int32) (Bs : Nat → Int32) (Zs : Nat → Int32) (Vs : Nat → Nat → Int32) (hSh : RMs (R 8) (R 9) (R 10) Bs Zs Vs) (hM : MI I R) : Met l yX10_sheet wsX10_sheet ({ frames := 2, cells := 0, slots := 0, locals := 42 }) (va_Pc [.ref (a 0), .int x0, .int x1, .int x2] (PW D cy sz (MW cy a J I R RJ))) (va_Qi (fun r (u : MS) => ∃ (w0 : Int32), ∃ (w1 : Nat → Int32), ∃ (w2 : Nat → Int32), ∃ (w3 : Nat → Int32), (r = a_sheet x0 x1 x2 ∧ (∀ i, i < 4 → vp_in (w2 i) 17) ∧ (RMs w1 w2 w3 (aShB Bs x0 x1 x2) (aShZ Zs x0 x1 x2) (aShV Vs x0 x1 x2))) ∧ u = (J, (va_up I 13 w0), (va_up (va_up (va_up R 8 w1) 9 w2) 10 w3), RJ)) (BW D (va_A (MW cy a J I R RJ) sz) (MWu cy a)) (va_A (MW cy a J I R RJ) sz)) 0 0 (va_A (MW cy a J I R RJ) sz) := by
  refine Met.ofW (cc := cX10_sheet) (maxL := 5) (ret := (some .int)) (by decide) rfl ?_
  intro p e s m args below meth c s₁ B hml hv
  obtain ⟨rfl, rfl, hP, hK, hN, hD0⟩ := hv
  have hx := B.exec
  have hb := B.bytes
  have hr := B.returns
  have hts := atoms_spec (ws := wsX10_sheet) B.pre
  have hown : s.vm.findClass RX10 = some m.cls := findClass_of_methodNamed B.named
  have hlocks := B.notSynchronized
  have hw0 := hts (.fieldLink RX10 36 "ParquetLayerModel" "sizes" "[I") (by decide +kernel)
  have hw1 := hts (.fieldLink RX10 39 "ParquetLayerModel" "sheets" "[I") (by decide +kernel)
  have hw2 := hts (.constant RX10 141 (-100001)) (by decide +kernel)
  have hw3 := hts (.fieldLink RX10 33 "ParquetLayerModel" "bits" "[I") (by decide +kernel)
  have hw4 := hts (.constant RX10 176 (-100003)) (by decide +kernel)
  have hi10 := ihX10_sheet_10
  have hD := hD0.self (sz := s.heap.size)
  generalize hAe : va_A (MW cy a J I R RJ) s.heap.size = A at hD ⊢
  have hA : ∀ q : Nat, s.heap.size ≤ q → A q := fun q h => by rw [← hAe]; exact Or.inr h
  have hS : va_S A s.heap s.heap [] := va_S.rf
  have hl := lv_entry ([.ref (a 0), .int x0, .int x1, .int x2]) (n := 5) (Nat.le_of_ble_eq_true rfl)
  rw [lg_entry_eq]
  generalize (lg_sl ([.ref (a 0), .int x0, .int x1, .int x2]) ++ List.replicate (5 - (lg_sl ([.ref (a 0), .int x0, .int x1, .int x2])).length) Slot.unset).toArray = ls at hl ⊢
  have hl : lv_has ls 5 [(0, .ref (a 0)), (1, .int x0), (2, .int x1), (3, .int x2)] := hl
  have hP : va_P D vwCl (MW cy a J (va_up I 13 (I 13)) (va_up (va_up (va_up R 8 (R 8)) 9 (R 9)) 10 (R 10)) RJ) s.heap := hP
  have hD : va_D A (MW cy a J (va_up I 13 (I 13)) (va_up (va_up (va_up R 8 (R 8)) 9 (R 9)) 10 (R 10)) RJ) := hD
  have lp85 : ∀ (n85 : Nat), ∀ (i : Nat) (m0_85 : Int32) (m1_85 : Nat → Int32) (m2_85 : Nat → Int32) (m3_85 : Nat → Int32), (i ≤ 16) → (∀ i, i < 4 → vp_in (m2_85 i) 17) → (vp_in x0 4) → (m2_85 x0.toNatClampNeg = a_sheet x0 x1 x2) → (m_within x0 0 3 = true) → (bOk x1) → (0 ≤ x2) → (x2 ≤ 16) → (m1_85 = upd (R 8) x0.toNatClampNeg x1) → (m2_85 = upd (R 9) x0.toNatClampNeg (if x1 = 0 then 0 else x2)) → (shI (R 10) m3_85 x0.toNatClampNeg i) → (16 - i) < n85 → ∀ (H : Heap) (locs : List Loc), va_P D vwCl (MW cy a J (va_up I 13 m0_85) (va_up (va_up (va_up R 8 m1_85) 9 m2_85) 10 m3_85) RJ) H → va_D A (MW cy a J (va_up I 13 m0_85) (va_up (va_up (va_up R 8 m1_85) 9 m2_85) 10 m3_85) RJ) → va_S A s.heap H locs → ∀ (ls : Array Slot), lv_has ls 5 [(0, .ref (a 0)), (1, .int x0), (2, .int x1), (3, .int x2), (4, .int (nI i))] → W p l e (headSpec wsX10_sheet ({ frames := 2, cells := 0, slots := 0, locals := 42 })).room s m ([.ref (a 0), .int x0, .int x1, .int x2] : List Value).toArray below meth c H locs 0 0 (MQ below (va_Qi (fun r (u : MS) => ∃ (w0 : Int32), ∃ (w1 : Nat → Int32), ∃ (w2 : Nat → Int32), ∃ (w3 : Nat → Int32), (r = a_sheet x0 x1 x2 ∧ (∀ i, i < 4 → vp_in (w2 i) 17) ∧ (RMs w1 w2 w3 (aShB Bs x0 x1 x2) (aShZ Zs x0 x1 x2) (aShV Vs x0 x1 x2))) ∧ u = (J, (va_up I 13 w0), (va_up (va_up (va_up R 8 w1) 9 w2) 10 w3), RJ)) (BW D A (MWu cy a)) A) ([.ref (a 0), .int x0, .int x1, .int x2] : List Value).toArray s 0 0 A) (F0 m 85 ls []) := by
    intro n85
    induction n85 with
    | zero => intro i m0_85 m1_85 m2_85 m3_85 hi hm_m2_85 hv4 hr9 hw hbk h0n h1n he8 he9 hsh hn; exact absurd hn (Nat.not_lt_zero _)
    | succ n85 ih85 =>
      intro i m0_85 m1_85 m2_85 m3_85 hi hm_m2_85 hv4 hr9 hw hbk h0n h1n he8 he9 hsh hn85 H locs hP hD hS ls hl
      refine lv_iload hx hb dX10_sheet_85 (lv_at hl 4 rfl) ?_
      refine lv_bipush (v := 16) hx hb dX10_sheet_87 (by decide) ?_
      refine lv_icmp_ge (tgt := 111) hx hb dX10_sheet_89 (by decide) (fun c_1 => ?_) (fun c_1 => ?_)
      · have hie := ctr_ge (N := 16) (by decide) hi c_1
        refine lv_aload_n hx hb dX10_sheet_111 rfl (lv_at hl 0 rfl) ?_
        refine va_get (D := D) (ci := 9) (v := .ref (a 9)) (C := RX10) (T := TX10) (N := 30) hx hb hts hi10 hown hK hP 0 rfl rfl 15 (by decide) hw0 (fun _ h9 => h9) rfl dX10_sheet_112 ?_
        refine lv_iload_n hx hb dX10_sheet_115 rfl (lv_at hl 1 rfl) ?_
        refine va_iald hx hb hK hP 9 0 rfl rfl hv4 dX10_sheet_116 ?_
        exact wret_i hx hb hr hlocks (J, (va_up I 13 m0_85), (va_up (va_up (va_up R 8 m1_85) 9 m2_85) 10 m3_85), RJ) ⟨m0_85, m1_85, m2_85, m3_85, ⟨hr9, hm_m2_85, (RMs_sh hie hw hbk h0n h1n hSh hsh he8 he9)⟩, rfl⟩ hP hD hS dX10_sheet_117
      · have hlt := ctr_lt (N := 16) (by decide) hi c_1
        refine lv_aload_n hx hb dX10_sheet_92 rfl (lv_at hl 0 rfl) ?_
        refine va_get (D := D) (ci := 9) (v := .ref (a 10)) (C := RX10) (T := TX10) (N := 30) hx hb hts hi10 hown hK hP 0 rfl rfl 16 (by decide) hw1 (fun _ h9 => h9) rfl dX10_sheet_93 ?_
        refine lv_bipush (v := 16) hx hb dX10_sheet_96 (by decide) ?_
        refine lv_iload_n hx hb dX10_sheet_98 rfl (lv_at hl 1 rfl) ?_
        refine lv_imul hx hb dX10_sheet_99 ?_
        refine lv_iload hx hb dX10_sheet_100 (lv_at hl 4 rfl) ?_
        refine lv_iadd hx hb dX10_sheet_102 ?_
        refine lv_iconst (v := 0) hx hb dX10_sheet_103 (by decide) ?_
        refine va_iast hx hb hK hP hD hS 10 0 rfl rfl (ix16 hv4 hlt) dX10_sheet_104 (fun H locs hP hD hS => ?_)
        have hP : va_P D vwCl (MW cy a J (va_up I 13 m0_85) (va_up (va_up (va_up R 8 m1_85) 9 m2_85) 10 (upd m3_85 ((16 * x0) + (nI i)).toNatClampNeg 0)) RJ) H := hP
        have hD : va_D A (MW cy a J (va_up I 13 m0_85) (va_up (va_up (va_up R 8 m1_85) 9 m2_85) 10 (upd m3_85 ((16 * x0) + (nI i)).toNatClampNeg 0)) RJ) := hD
        refine lv_iinc (v := nI (i + 1)) (lv' := [(4, .int (nI (i + 1))), (0, .ref (a 0)), (1, .int x0), (2, .int x1), (3, .int x2)]) hx hb dX10_sheet_105 hl (k := 4) rfl (nI_1 _) (by decide) rfl (fun ls hl => ?_)
        refine lv_goto (tgt := 85) hx hb dX10_sheet_108 (by decide) ?_
        exact ih85 (i + 1) m0_85 m1_85 m2_85 (upd m3_85 ((16 * x0) + (nI i)).toNatClampNeg 0) (by omega) hm_m2_85 hv4 hr9 hw hbk h0n h1n he8 he9 (shI_s hv4 hlt hsh) (by omega) _ _ hP hD hS ls (lv_sub hl [1, 2, 3, 4, 0] rfl)
  refine lv_iload_n hx hb dX10_sheet_0 rfl (lv_at hl 1 rfl) ?_
  refine kS_i (As := [.int x0]) (rest := []) ⟨hx, hb, hml, hown, hts⟩ (c_X10_isSheet l x0) (va_cwS 1 hts gX10_sheet_X10_isSheet rfl rfl rfl (by decide +kernel) ⟨Nat.le_of_ble_eq_true rfl, Nat.le_of_ble_eq_true rfl⟩) rfl hl.1 rfl (Nat.le_of_ble_eq_true rfl) dX10_sheet_1 ⟨Nat.le_of_ble_eq_true rfl, Nat.le_of_ble_eq_true rfl⟩ ?_
  refine lv_if_eq (tgt := 29) hx hb dX10_sheet_4 (by decide) (fun c_2 => ?_) (fun c_2 => ?_)
  · replace c_2 := bI_f c_2
    refine lv_aload_n hx hb dX10_sheet_29 rfl (lv_at hl 0 rfl) ?_
    refine lv_ldc (v := (-100001)) hx hb hown hw2 dX10_sheet_30 ?_
    refine kM_i (As := [.int (-100001)]) (rest := []) (q0 := 0) ⟨hx, hb, hml, hown, hts⟩ (c_X10_finding l D cy a _ J (va_up I 13 (I 13)) (va_up (va_up (va_up R 8 (R 8)) 9 (R 9)) 10 (R 10)) RJ (-100001) ) (cwV 1 hts gX10_sheet_X10_finding rfl rfl rfl (by decide +kernel) ⟨Nat.le_of_ble_eq_true rfl, Nat.le_of_ble_eq_true rfl⟩) hK hN hP hD hS hA rfl rfl rfl hl.1 rfl (Nat.le_of_ble_eq_true rfl) dX10_sheet_32 ⟨Nat.le_of_ble_eq_true rfl, Nat.le_of_ble_eq_true rfl⟩ (fun r_3 u H locs hw hP hD hS => ?_)
    obtain ⟨rfl, rfl⟩ := hw
    have hP : va_P D vwCl (MW cy a J (va_up I 13 ((I 13) + 1)) (va_up (va_up (va_up R 8 (R 8)) 9 (R 9)) 10 (R 10)) RJ) H := hP
    have hD : va_D A (MW cy a J (va_up I 13 ((I 13) + 1)) (va_up (va_up (va_up R 8 (R 8)) 9 (R 9)) 10 (R 10)) RJ) := hD
    exact wret_i hx hb hr hlocks (J, (va_up I 13 ((I 13) + 1)), (va_up (va_up (va_up R 8 (R 8)) 9 (R 9)) 10 (R 10)), RJ) ⟨((I 13) + 1), (R 8), (R 9), (R 10), ⟨(by simp_all [a_sheet]), hM.2.2.2.2.2, (RMs_no (sOk_1 c_2) hSh)⟩, rfl⟩ hP hD hS dX10_sheet_35
  · replace c_2 := bI_t c_2
    refine lv_iload_n hx hb dX10_sheet_7 rfl (lv_at hl 2 rfl) ?_
    refine lv_if_eq (tgt := 36) hx hb dX10_sheet_8 (by decide) (fun c_4 => ?_) (fun c_4 => ?_)
    · refine lv_iload_n hx hb dX10_sheet_36 rfl (lv_at hl 3 rfl) ?_
      refine lv_if_ge (tgt := 47) hx hb dX10_sheet_37 (by decide) (fun c_5 => ?_) (fun c_5 => ?_)
      · refine lv_iload_n hx hb dX10_sheet_47 rfl (lv_at hl 3 rfl) ?_
        refine lv_bipush (v := 16) hx hb dX10_sheet_48 (by decide) ?_
        refine lv_icmp_le (tgt := 60) hx hb dX10_sheet_50 (by decide) (fun c_6 => ?_) (fun c_6 => ?_)
        · refine lv_aload_n hx hb dX10_sheet_60 rfl (lv_at hl 0 rfl) ?_
          refine va_get (D := D) (ci := 9) (v := .ref (a 8)) (C := RX10) (T := TX10) (N := 30) hx hb hts hi10 hown hK hP 0 rfl rfl 14 (by decide) hw3 (fun _ h9 => h9) rfl dX10_sheet_61 ?_
          refine lv_iload_n hx hb dX10_sheet_64 rfl (lv_at hl 1 rfl) ?_
          refine lv_iload_n hx hb dX10_sheet_65 rfl (lv_at hl 2 rfl) ?_
          refine va_iast hx hb hK hP hD hS 8 0 rfl rfl (within_in4 c_2) dX10_sheet_66 (fun H locs hP hD hS => ?_)
          have hP : va_P D vwCl (MW cy a J (va_up I 13 (I 13)) (va_up (va_up (va_up R 8 (upd (R 8) x0.toNatClampNeg x1)) 9 (R 9)) 10 (R 10)) RJ) H := hP
          have hD : va_D A (MW cy a J (va_up I 13 (I 13)) (va_up (va_up (va_up R 8 (upd (R 8) x0.toNatClampNeg x1)) 9 (R 9)) 10 (R 10)) RJ) := hD
          refine lv_aload_n hx hb dX10_sheet_67 rfl (lv_at hl 0 rfl) ?_
          refine va_get (D := D) (ci := 9) (v := .ref (a 9)) (C := RX10) (T := TX10) (N := 30) hx hb hts hi10 hown hK hP 0 rfl rfl 15 (by decide) hw0 (fun _ h9 => h9) rfl dX10_sheet_68 ?_
          refine lv_iload_n hx hb dX10_sheet_71 rfl (lv_at hl 1 rfl) ?_
          refine lv_iload_n hx hb dX10_sheet_72 rfl (lv_at hl 2 rfl) ?_
          refine lv_if_ne (tgt := 80) hx hb dX10_sheet_73 (by decide) (fun c_7 => ?_) (fun c_7 => ?_)
          · refine lv_iload_n hx hb dX10_sheet_80 rfl (lv_at hl 3 rfl) ?_
            refine va_iast hx hb hK hP hD hS 9 0 rfl rfl (within_in4 c_2) dX10_sheet_81 (fun H locs hP hD hS => ?_)
            have hP : va_P D vwCl (MW cy a J (va_up I 13 (I 13)) (va_up (va_up (va_up R 8 (upd (R 8) x0.toNatClampNeg x1)) 9 (upd (R 9) x0.toNatClampNeg x2)) 10 (R 10)) RJ) H := hP
            have hD : va_D A (MW cy a J (va_up I 13 (I 13)) (va_up (va_up (va_up R 8 (upd (R 8) x0.toNatClampNeg x1)) 9 (upd (R 9) x0.toNatClampNeg x2)) 10 (R 10)) RJ) := hD
            have hi_8 : ∀ i, i < 4 → vp_in ((upd (R 9) x0.toNatClampNeg x2) i) 17 := all17 hM.2.2.2.2.2 (in17 c_5 c_6)
            refine lv_iconst (v := 0) hx hb dX10_sheet_82 (by decide) ?_
            refine lv_istore (lv' := [(4, .int 0), (0, .ref (a 0)), (1, .int x0), (2, .int x1), (3, .int x2)]) hx hb dX10_sheet_83 hl (by decide) rfl (fun ls hl => ?_)
            exact lp85 _ 0 (I 13) (upd (R 8) x0.toNatClampNeg x1) (upd (R 9) x0.toNatClampNeg x2) (R 10) (by omega) hi_8 (within_in4 c_2) (by rw [pk_us]; simp_all [a_sheet, i32_nlt]) c_2 (Or.inl c_4) c_5 c_6 rfl (by rw [if_neg c_7]) shI_0 (Nat.lt_succ_self _) _ _ hP hD hS ls (lv_sub hl [1, 2, 3, 4, 0] rfl)
          · refine lv_iconst (v := 0) hx hb dX10_sheet_76 (by decide) ?_
            refine lv_goto (tgt := 81) hx hb dX10_sheet_77 (by decide) ?_
            refine va_iast hx hb hK hP hD hS 9 0 rfl rfl (within_in4 c_2) dX10_sheet_81 (fun H locs hP hD hS => ?_)
            have hP : va_P D vwCl (MW cy a J (va_up I 13 (I 13)) (va_up (va_up (va_up R 8 (upd (R 8) x0.toNatClampNeg x1)) 9 (upd (R 9) x0.toNatClampNeg 0)) 10 (R 10)) RJ) H := hP
            have hD : va_D A (MW cy a J (va_up I 13 (I 13)) (va_up (va_up (va_up R 8 (upd (R 8) x0.toNatClampNeg x1)) 9 (upd (R 9) x0.toNatClampNeg 0)) 10 (R 10)) RJ) := hD
            have hi_9 : ∀ i, i < 4 → vp_in ((upd (R 9) x0.toNatClampNeg 0) i) 17 := all17 hM.2.2.2.2.2 (by unfold vp_in; decide)
            refine lv_iconst (v := 0) hx hb dX10_sheet_82 (by decide) ?_
            refine lv_istore (lv' := [(4, .int 0), (0, .ref (a 0)), (1, .int x0), (2, .int x1), (3, .int x2)]) hx hb dX10_sheet_83 hl (by decide) rfl (fun ls hl => ?_)
            exact lp85 _ 0 (I 13) (upd (R 8) x0.toNatClampNeg x1) (upd (R 9) x0.toNatClampNeg 0) (R 10) (by omega) hi_9 (within_in4 c_2) (by rw [pk_us]; simp_all [a_sheet, i32_nlt]) c_2 (Or.inl c_4) c_5 c_6 rfl (by rw [if_pos c_7]) shI_0 (Nat.lt_succ_self _) _ _ hP hD hS ls (lv_sub hl [1, 2, 3, 4, 0] rfl)
        · refine lv_aload_n hx hb dX10_sheet_53 rfl (lv_at hl 0 rfl) ?_
          refine lv_ldc (v := (-100001)) hx hb hown hw2 dX10_sheet_54 ?_
          refine kM_i (As := [.int (-100001)]) (rest := []) (q0 := 0) ⟨hx, hb, hml, hown, hts⟩ (c_X10_finding l D cy a _ J (va_up I 13 (I 13)) (va_up (va_up (va_up R 8 (R 8)) 9 (R 9)) 10 (R 10)) RJ (-100001) ) (cwV 1 hts gX10_sheet_X10_finding rfl rfl rfl (by decide +kernel) ⟨Nat.le_of_ble_eq_true rfl, Nat.le_of_ble_eq_true rfl⟩) hK hN hP hD hS hA rfl rfl rfl hl.1 rfl (Nat.le_of_ble_eq_true rfl) dX10_sheet_56 ⟨Nat.le_of_ble_eq_true rfl, Nat.le_of_ble_eq_true rfl⟩ (fun r_10 u H locs hw hP hD hS => ?_)
          obtain ⟨rfl, rfl⟩ := hw
          have hP : va_P D vwCl (MW cy a J (va_up I 13 ((I 13) + 1)) (va_up (va_up (va_up R 8 (R 8)) 9 (R 9)) 10 (R 10)) RJ) H := hP
          have hD : va_D A (MW cy a J (va_up I 13 ((I 13) + 1)) (va_up (va_up (va_up R 8 (R 8)) 9 (R 9)) 10 (R 10)) RJ) := hD
          exact wret_i hx hb hr hlocks (J, (va_up I 13 ((I 13) + 1)), (va_up (va_up (va_up R 8 (R 8)) 9 (R 9)) 10 (R 10)), RJ) ⟨((I 13) + 1), (R 8), (R 9), (R 10), ⟨(by simp_all [a_sheet]), hM.2.2.2.2.2, (RMs_no (sOk_4 c_6) hSh)⟩, rfl⟩ hP hD hS dX10_sheet_59
      · refine lv_aload_n hx hb dX10_sheet_40 rfl (lv_at hl 0 rfl) ?_
        refine lv_ldc (v := (-100003)) hx hb hown hw4 dX10_sheet_41 ?_
        refine kM_i (As := [.int (-100003)]) (rest := []) (q0 := 0) ⟨hx, hb, hml, hown, hts⟩ (c_X10_finding l D cy a _ J (va_up I 13 (I 13)) (va_up (va_up (va_up R 8 (R 8)) 9 (R 9)) 10 (R 10)) RJ (-100003) ) (cwV 1 hts gX10_sheet_X10_finding rfl rfl rfl (by decide +kernel) ⟨Nat.le_of_ble_eq_true rfl, Nat.le_of_ble_eq_true rfl⟩) hK hN hP hD hS hA rfl rfl rfl hl.1 rfl (Nat.le_of_ble_eq_true rfl) dX10_sheet_43 ⟨Nat.le_of_ble_eq_true rfl, Nat.le_of_ble_eq_true rfl⟩ (fun r_11 u H locs hw hP hD hS => ?_)
        obtain ⟨rfl, rfl⟩ := hw
        have hP : va_P D vwCl (MW cy a J (va_up I 13 ((I 13) + 1)) (va_up (va_up (va_up R 8 (R 8)) 9 (R 9)) 10 (R 10)) RJ) H := hP
        have hD : va_D A (MW cy a J (va_up I 13 ((I 13) + 1)) (va_up (va_up (va_up R 8 (R 8)) 9 (R 9)) 10 (R 10)) RJ) := hD
        exact wret_i hx hb hr hlocks (J, (va_up I 13 ((I 13) + 1)), (va_up (va_up (va_up R 8 (R 8)) 9 (R 9)) 10 (R 10)), RJ) ⟨((I 13) + 1), (R 8), (R 9), (R 10), ⟨(by simp_all [a_sheet]), hM.2.2.2.2.2, (RMs_no (sOk_3 c_5) hSh)⟩, rfl⟩ hP hD hS dX10_sheet_46
    · refine lv_iload_n hx hb dX10_sheet_11 rfl (lv_at hl 2 rfl) ?_
      refine lv_bipush (v := 8) hx hb dX10_sheet_12 (by decide) ?_
      refine lv_icmp_eq (tgt := 36) hx hb dX10_sheet_14 (by decide) (fun c_12 => ?_) (fun c_12 => ?_)
      · refine lv_iload_n hx hb dX10_sheet_36 rfl (lv_at hl 3 rfl) ?_
        refine lv_if_ge (tgt := 47) hx hb dX10_sheet_37 (by decide) (fun c_13 => ?_) (fun c_13 => ?_)
        · refine lv_iload_n hx hb dX10_sheet_47 rfl (lv_at hl 3 rfl) ?_
          refine lv_bipush (v := 16) hx hb dX10_sheet_48 (by decide) ?_
          refine lv_icmp_le (tgt := 60) hx hb dX10_sheet_50 (by decide) (fun c_14 => ?_) (fun c_14 => ?_)
          · refine lv_aload_n hx hb dX10_sheet_60 rfl (lv_at hl 0 rfl) ?_
            refine va_get (D := D) (ci := 9) (v := .ref (a 8)) (C := RX10) (T := TX10) (N := 30) hx hb hts hi10 hown hK hP 0 rfl rfl 14 (by decide) hw3 (fun _ h9 => h9) rfl dX10_sheet_61 ?_
            refine lv_iload_n hx hb dX10_sheet_64 rfl (lv_at hl 1 rfl) ?_
            refine lv_iload_n hx hb dX10_sheet_65 rfl (lv_at hl 2 rfl) ?_
            refine va_iast hx hb hK hP hD hS 8 0 rfl rfl (within_in4 c_2) dX10_sheet_66 (fun H locs hP hD hS => ?_)
            have hP : va_P D vwCl (MW cy a J (va_up I 13 (I 13)) (va_up (va_up (va_up R 8 (upd (R 8) x0.toNatClampNeg x1)) 9 (R 9)) 10 (R 10)) RJ) H := hP
            have hD : va_D A (MW cy a J (va_up I 13 (I 13)) (va_up (va_up (va_up R 8 (upd (R 8) x0.toNatClampNeg x1)) 9 (R 9)) 10 (R 10)) RJ) := hD
            refine lv_aload_n hx hb dX10_sheet_67 rfl (lv_at hl 0 rfl) ?_
            refine va_get (D := D) (ci := 9) (v := .ref (a 9)) (C := RX10) (T := TX10) (N := 30) hx hb hts hi10 hown hK hP 0 rfl rfl 15 (by decide) hw0 (fun _ h9 => h9) rfl dX10_sheet_68 ?_
            refine lv_iload_n hx hb dX10_sheet_71 rfl (lv_at hl 1 rfl) ?_
            refine lv_iload_n hx hb dX10_sheet_72 rfl (lv_at hl 2 rfl) ?_
            refine lv_if_ne (tgt := 80) hx hb dX10_sheet_73 (by decide) (fun c_15 => ?_) (fun c_15 => ?_)
            · refine lv_iload_n hx hb dX10_sheet_80 rfl (lv_at hl 3 rfl) ?_
              refine va_iast hx hb hK hP hD hS 9 0 rfl rfl (within_in4 c_2) dX10_sheet_81 (fun H locs hP hD hS => ?_)
              have hP : va_P D vwCl (MW cy a J (va_up I 13 (I 13)) (va_up (va_up (va_up R 8 (upd (R 8) x0.toNatClampNeg x1)) 9 (upd (R 9) x0.toNatClampNeg x2)) 10 (R 10)) RJ) H := hP
              have hD : va_D A (MW cy a J (va_up I 13 (I 13)) (va_up (va_up (va_up R 8 (upd (R 8) x0.toNatClampNeg x1)) 9 (upd (R 9) x0.toNatClampNeg x2)) 10 (R 10)) RJ) := hD
              have hi_16 : ∀ i, i < 4 → vp_in ((upd (R 9) x0.toNatClampNeg x2) i) 17 := all17 hM.2.2.2.2.2 (in17 c_13 c_14)
              refine lv_iconst (v := 0) hx hb dX10_sheet_82 (by decide) ?_
              refine lv_istore (lv' := [(4, .int 0), (0, .ref (a 0)), (1, .int x0), (2, .int x1), (3, .int x2)]) hx hb dX10_sheet_83 hl (by decide) rfl (fun ls hl => ?_)
              exact lp85 _ 0 (I 13) (upd (R 8) x0.toNatClampNeg x1) (upd (R 9) x0.toNatClampNeg x2) (R 10) (by omega) hi_16 (within_in4 c_2) (by rw [pk_us]; simp_all [a_sheet, i32_nlt]) c_2 (Or.inr (Or.inl c_12)) c_13 c_14 rfl (by rw [if_neg c_15]) shI_0 (Nat.lt_succ_self _) _ _ hP hD hS ls (lv_sub hl [1, 2, 3, 4, 0] rfl)
            · refine lv_iconst (v := 0) hx hb dX10_sheet_76 (by decide) ?_
              refine lv_goto (tgt := 81) hx hb dX10_sheet_77 (by decide) ?_
              refine va_iast hx hb hK hP hD hS 9 0 rfl rfl (within_in4 c_2) dX10_sheet_81 (fun H locs hP hD hS => ?_)
              have hP : va_P D vwCl (MW cy a J (va_up I 13 (I 13)) (va_up (va_up (va_up R 8 (upd (R 8) x0.toNatClampNeg x1)) 9 (upd (R 9) x0.toNatClampNeg 0)) 10 (R 10)) RJ) H := hP
              have hD : va_D A (MW cy a J (va_up I 13 (I 13)) (va_up (va_up (va_up R 8 (upd (R 8) x0.toNatClampNeg x1)) 9 (upd (R 9) x0.toNatClampNeg 0)) 10 (R 10)) RJ) := hD
              have hi_17 : ∀ i, i < 4 → vp_in ((upd (R 9) x0.toNatClampNeg 0) i) 17 := all17 hM.2.2.2.2.2 (by unfold vp_in; decide)
              refine lv_iconst (v := 0) hx hb dX10_sheet_82 (by decide) ?_
              refine lv_istore (lv' := [(4, .int 0), (0, .ref (a 0)), (1, .int x0), (2, .int x1), (3, .int x2)]) hx hb dX10_sheet_83 hl (by decide) rfl (fun ls hl => ?_)
              exact lp85 _ 0 (I 13) (upd (R 8) x0.toNatClampNeg x1) (upd (R 9) x0.toNatClampNeg 0) (R 10) (by omega) hi_17 (within_in4 c_2) (by rw [pk_us]; simp_all [a_sheet, i32_nlt]) c_2 (Or.inr (Or.inl c_12)) c_13 c_14 rfl (by rw [if_pos c_15]) shI_0 (Nat.lt_succ_self _) _ _ hP hD hS ls (lv_sub hl [1, 2, 3, 4, 0] rfl)
          · refine lv_aload_n hx hb dX10_sheet_53 rfl (lv_at hl 0 rfl) ?_
            refine lv_ldc (v := (-100001)) hx hb hown hw2 dX10_sheet_54 ?_
            refine kM_i (As := [.int (-100001)]) (rest := []) (q0 := 0) ⟨hx, hb, hml, hown, hts⟩ (c_X10_finding l D cy a _ J (va_up I 13 (I 13)) (va_up (va_up (va_up R 8 (R 8)) 9 (R 9)) 10 (R 10)) RJ (-100001) ) (cwV 1 hts gX10_sheet_X10_finding rfl rfl rfl (by decide +kernel) ⟨Nat.le_of_ble_eq_true rfl, Nat.le_of_ble_eq_true rfl⟩) hK hN hP hD hS hA rfl rfl rfl hl.1 rfl (Nat.le_of_ble_eq_true rfl) dX10_sheet_56 ⟨Nat.le_of_ble_eq_true rfl, Nat.le_of_ble_eq_true rfl⟩ (fun r_18 u H locs hw hP hD hS => ?_)
            obtain ⟨rfl, rfl⟩ := hw
            have hP : va_P D vwCl (MW cy a J (va_up I 13 ((I 13) + 1)) (va_up (va_up (va_up R 8 (R 8)) 9 (R 9)) 10 (R 10)) RJ) H := hP
            have hD : va_D A (MW cy a J (va_up I 13 ((I 13) + 1)) (va_up (va_up (va_up R 8 (R 8)) 9 (R 9)) 10 (R 10)) RJ) := hD
            exact wret_i hx hb hr hlocks (J, (va_up I 13 ((I 13) + 1)), (va_up (va_up (va_up R 8 (R 8)) 9 (R 9)) 10 (R 10)), RJ) ⟨((I 13) + 1), (R 8), (R 9), (R 10), ⟨(by simp_all [a_sheet]), hM.2.2.2.2.2, (RMs_no (sOk_4 c_14) hSh)⟩, rfl⟩ hP hD hS dX10_sheet_59
        · refine lv_aload_n hx hb dX10_sheet_40 rfl (lv_at hl 0 rfl) ?_
          refine lv_ldc (v := (-100003)) hx hb hown hw4 dX10_sheet_41 ?_
          refine kM_i (As := [.int (-100003)]) (rest := []) (q0 := 0) ⟨hx, hb, hml, hown, hts⟩ (c_X10_finding l D cy a _ J (va_up I 13 (I 13)) (va_up (va_up (va_up R 8 (R 8)) 9 (R 9)) 10 (R 10)) RJ (-100003) ) (cwV 1 hts gX10_sheet_X10_finding rfl rfl rfl (by decide +kernel) ⟨Nat.le_of_ble_eq_true rfl, Nat.le_of_ble_eq_true rfl⟩) hK hN hP hD hS hA rfl rfl rfl hl.1 rfl (Nat.le_of_ble_eq_true rfl) dX10_sheet_43 ⟨Nat.le_of_ble_eq_true rfl, Nat.le_of_ble_eq_true rfl⟩ (fun r_19 u H locs hw hP hD hS => ?_)
          obtain ⟨rfl, rfl⟩ := hw
          have hP : va_P D vwCl (MW cy a J (va_up I 13 ((I 13) + 1)) (va_up (va_up (va_up R 8 (R 8)) 9 (R 9)) 10 (R 10)) RJ) H := hP
          have hD : va_D A (MW cy a J (va_up I 13 ((I 13) + 1)) (va_up (va_up (va_up R 8 (R 8)) 9 (R 9)) 10 (R 10)) RJ) := hD
          exact wret_i hx hb hr hlocks (J, (va_up I 13 ((I 13) + 1)), (va_up (va_up (va_up R 8 (R 8)) 9 (R 9)) 10 (R 10)), RJ) ⟨((I 13) + 1), (R 8), (R 9), (R 10), ⟨(by simp_all [a_sheet]), hM.2.2.2.2.2, (RMs_no (sOk_3 c_13) hSh)⟩, rfl⟩ hP hD hS dX10_sheet_46
      · refine lv_iload_n hx hb dX10_sheet_17 rfl (lv_at hl 2 rfl) ?_
        refine lv_bipush (v := 16) hx hb dX10_sheet_18 (by decide) ?_
        refine lv_icmp_eq (tgt := 36) hx hb dX10_sheet_20 (by decide) (fun c_20 => ?_) (fun c_20 => ?_)
        · refine lv_iload_n hx hb dX10_sheet_36 rfl (lv_at hl 3 rfl) ?_
          refine lv_if_ge (tgt := 47) hx hb dX10_sheet_37 (by decide) (fun c_21 => ?_) (fun c_21 => ?_)
          · refine lv_iload_n hx hb dX10_sheet_47 rfl (lv_at hl 3 rfl) ?_
            refine lv_bipush (v := 16) hx hb dX10_sheet_48 (by decide) ?_
            refine lv_icmp_le (tgt := 60) hx hb dX10_sheet_50 (by decide) (fun c_22 => ?_) (fun c_22 => ?_)
            · refine lv_aload_n hx hb dX10_sheet_60 rfl (lv_at hl 0 rfl) ?_
              refine va_get (D := D) (ci := 9) (v := .ref (a 8)) (C := RX10) (T := TX10) (N := 30) hx hb hts hi10 hown hK hP 0 rfl rfl 14 (by decide) hw3 (fun _ h9 => h9) rfl dX10_sheet_61 ?_
              refine lv_iload_n hx hb dX10_sheet_64 rfl (lv_at hl 1 rfl) ?_
              refine lv_iload_n hx hb dX10_sheet_65 rfl (lv_at hl 2 rfl) ?_
              refine va_iast hx hb hK hP hD hS 8 0 rfl rfl (within_in4 c_2) dX10_sheet_66 (fun H locs hP hD hS => ?_)
              have hP : va_P D vwCl (MW cy a J (va_up I 13 (I 13)) (va_up (va_up (va_up R 8 (upd (R 8) x0.toNatClampNeg x1)) 9 (R 9)) 10 (R 10)) RJ) H := hP
              have hD : va_D A (MW cy a J (va_up I 13 (I 13)) (va_up (va_up (va_up R 8 (upd (R 8) x0.toNatClampNeg x1)) 9 (R 9)) 10 (R 10)) RJ) := hD
              refine lv_aload_n hx hb dX10_sheet_67 rfl (lv_at hl 0 rfl) ?_
              refine va_get (D := D) (ci := 9) (v := .ref (a 9)) (C := RX10) (T := TX10) (N := 30) hx hb hts hi10 hown hK hP 0 rfl rfl 15 (by decide) hw0 (fun _ h9 => h9) rfl dX10_sheet_68 ?_
              refine lv_iload_n hx hb dX10_sheet_71 rfl (lv_at hl 1 rfl) ?_
              refine lv_iload_n hx hb dX10_sheet_72 rfl (lv_at hl 2 rfl) ?_
              refine lv_if_ne (tgt := 80) hx hb dX10_sheet_73 (by decide) (fun c_23 => ?_) (fun c_23 => ?_)
              · refine lv_iload_n hx hb dX10_sheet_80 rfl (lv_at hl 3 rfl) ?_
                refine va_iast hx hb hK hP hD hS 9 0 rfl rfl (within_in4 c_2) dX10_sheet_81 (fun H locs hP hD hS => ?_)
                have hP : va_P D vwCl (MW cy a J (va_up I 13 (I 13)) (va_up (va_up (va_up R 8 (upd (R 8) x0.toNatClampNeg x1)) 9 (upd (R 9) x0.toNatClampNeg x2)) 10 (R 10)) RJ) H := hP
                have hD : va_D A (MW cy a J (va_up I 13 (I 13)) (va_up (va_up (va_up R 8 (upd (R 8) x0.toNatClampNeg x1)) 9 (upd (R 9) x0.toNatClampNeg x2)) 10 (R 10)) RJ) := hD
                have hi_24 : ∀ i, i < 4 → vp_in ((upd (R 9) x0.toNatClampNeg x2) i) 17 := all17 hM.2.2.2.2.2 (in17 c_21 c_22)
                refine lv_iconst (v := 0) hx hb dX10_sheet_82 (by decide) ?_
                refine lv_istore (lv' := [(4, .int 0), (0, .ref (a 0)), (1, .int x0), (2, .int x1), (3, .int x2)]) hx hb dX10_sheet_83 hl (by decide) rfl (fun ls hl => ?_)
                exact lp85 _ 0 (I 13) (upd (R 8) x0.toNatClampNeg x1) (upd (R 9) x0.toNatClampNeg x2) (R 10) (by omega) hi_24 (within_in4 c_2) (by rw [pk_us]; simp_all [a_sheet, i32_nlt]) c_2 (Or.inr (Or.inr (Or.inl c_20))) c_21 c_22 rfl (by rw [if_neg c_23]) shI_0 (Nat.lt_succ_self _) _ _ hP hD hS ls (lv_sub hl [1, 2, 3, 4, 0] rfl)
              · refine lv_iconst (v := 0) hx hb dX10_sheet_76 (by decide) ?_
                refine lv_goto (tgt := 81) hx hb dX10_sheet_77 (by decide) ?_
                refine va_iast hx hb hK hP hD hS 9 0 rfl rfl (within_in4 c_2) dX10_sheet_81 (fun H locs hP hD hS => ?_)
                have hP : va_P D vwCl (MW cy a J (va_up I 13 (I 13)) (va_up (va_up (va_up R 8 (upd (R 8) x0.toNatClampNeg x1)) 9 (upd (R 9) x0.toNatClampNeg 0)) 10 (R 10)) RJ) H := hP
                have hD : va_D A (MW cy a J (va_up I 13 (I 13)) (va_up (va_up (va_up R 8 (upd (R 8) x0.toNatClampNeg x1)) 9 (upd (R 9) x0.toNatClampNeg 0)) 10 (R 10)) RJ) := hD
                have hi_25 : ∀ i, i < 4 → vp_in ((upd (R 9) x0.toNatClampNeg 0) i) 17 := all17 hM.2.2.2.2.2 (by unfold vp_in; decide)
                refine lv_iconst (v := 0) hx hb dX10_sheet_82 (by decide) ?_
                refine lv_istore (lv' := [(4, .int 0), (0, .ref (a 0)), (1, .int x0), (2, .int x1), (3, .int x2)]) hx hb dX10_sheet_83 hl (by decide) rfl (fun ls hl => ?_)
                exact lp85 _ 0 (I 13) (upd (R 8) x0.toNatClampNeg x1) (upd (R 9) x0.toNatClampNeg 0) (R 10) (by omega) hi_25 (within_in4 c_2) (by rw [pk_us]; simp_all [a_sheet, i32_nlt]) c_2 (Or.inr (Or.inr (Or.inl c_20))) c_21 c_22 rfl (by rw [if_pos c_23]) shI_0 (Nat.lt_succ_self _) _ _ hP hD hS ls (lv_sub hl [1, 2, 3, 4, 0] rfl)
            · refine lv_aload_n hx hb dX10_sheet_53 rfl (lv_at hl 0 rfl) ?_
              refine lv_ldc (v := (-100001)) hx hb hown hw2 dX10_sheet_54 ?_
              refine kM_i (As := [.int (-100001)]) (rest := []) (q0 := 0) ⟨hx, hb, hml, hown, hts⟩ (c_X10_finding l D cy a _ J (va_up I 13 (I 13)) (va_up (va_up (va_up R 8 (R 8)) 9 (R 9)) 10 (R 10)) RJ (-100001) ) (cwV 1 hts gX10_sheet_X10_finding rfl rfl rfl (by decide +kernel) ⟨Nat.le_of_ble_eq_true rfl, Nat.le_of_ble_eq_true rfl⟩) hK hN hP hD hS hA rfl rfl rfl hl.1 rfl (Nat.le_of_ble_eq_true rfl) dX10_sheet_56 ⟨Nat.le_of_ble_eq_true rfl, Nat.le_of_ble_eq_true rfl⟩ (fun r_26 u H locs hw hP hD hS => ?_)
              obtain ⟨rfl, rfl⟩ := hw
              have hP : va_P D vwCl (MW cy a J (va_up I 13 ((I 13) + 1)) (va_up (va_up (va_up R 8 (R 8)) 9 (R 9)) 10 (R 10)) RJ) H := hP
              have hD : va_D A (MW cy a J (va_up I 13 ((I 13) + 1)) (va_up (va_up (va_up R 8 (R 8)) 9 (R 9)) 10 (R 10)) RJ) := hD
              exact wret_i hx hb hr hlocks (J, (va_up I 13 ((I 13) + 1)), (va_up (va_up (va_up R 8 (R 8)) 9 (R 9)) 10 (R 10)), RJ) ⟨((I 13) + 1), (R 8), (R 9), (R 10), ⟨(by simp_all [a_sheet]), hM.2.2.2.2.2, (RMs_no (sOk_4 c_22) hSh)⟩, rfl⟩ hP hD hS dX10_sheet_59
          · refine lv_aload_n hx hb dX10_sheet_40 rfl (lv_at hl 0 rfl) ?_
            refine lv_ldc (v := (-100003)) hx hb hown hw4 dX10_sheet_41 ?_
            refine kM_i (As := [.int (-100003)]) (rest := []) (q0 := 0) ⟨hx, hb, hml, hown, hts⟩ (c_X10_finding l D cy a _ J (va_up I 13 (I 13)) (va_up (va_up (va_up R 8 (R 8)) 9 (R 9)) 10 (R 10)) RJ (-100003) ) (cwV 1 hts gX10_sheet_X10_finding rfl rfl rfl (by decide +kernel) ⟨Nat.le_of_ble_eq_true rfl, Nat.le_of_ble_eq_true rfl⟩) hK hN hP hD hS hA rfl rfl rfl hl.1 rfl (Nat.le_of_ble_eq_true rfl) dX10_sheet_43 ⟨Nat.le_of_ble_eq_true rfl, Nat.le_of_ble_eq_true rfl⟩ (fun r_27 u H locs hw hP hD hS => ?_)
            obtain ⟨rfl, rfl⟩ := hw
            have hP : va_P D vwCl (MW cy a J (va_up I 13 ((I 13) + 1)) (va_up (va_up (va_up R 8 (R 8)) 9 (R 9)) 10 (R 10)) RJ) H := hP
            have hD : va_D A (MW cy a J (va_up I 13 ((I 13) + 1)) (va_up (va_up (va_up R 8 (R 8)) 9 (R 9)) 10 (R 10)) RJ) := hD
            exact wret_i hx hb hr hlocks (J, (va_up I 13 ((I 13) + 1)), (va_up (va_up (va_up R 8 (R 8)) 9 (R 9)) 10 (R 10)), RJ) ⟨((I 13) + 1), (R 8), (R 9), (R 10), ⟨(by simp_all [a_sheet]), hM.2.2.2.2.2, (RMs_no (sOk_3 c_21) hSh)⟩, rfl⟩ hP hD hS dX10_sheet_46
        · refine lv_iload_n hx hb dX10_sheet_23 rfl (lv_at hl 2 rfl) ?_
          refine lv_bipush (v := 32) hx hb dX10_sheet_24 (by decide) ?_
          refine lv_icmp_eq (tgt := 36) hx hb dX10_sheet_26 (by decide) (fun c_28 => ?_) (fun c_28 => ?_)
          · refine lv_iload_n hx hb dX10_sheet_36 rfl (lv_at hl 3 rfl) ?_
            refine lv_if_ge (tgt := 47) hx hb dX10_sheet_37 (by decide) (fun c_29 => ?_) (fun c_29 => ?_)
            · refine lv_iload_n hx hb dX10_sheet_47 rfl (lv_at hl 3 rfl) ?_
              refine lv_bipush (v := 16) hx hb dX10_sheet_48 (by decide) ?_
              refine lv_icmp_le (tgt := 60) hx hb dX10_sheet_50 (by decide) (fun c_30 => ?_) (fun c_30 => ?_)
              · refine lv_aload_n hx hb dX10_sheet_60 rfl (lv_at hl 0 rfl) ?_
                refine va_get (D := D) (ci := 9) (v := .ref (a 8)) (C := RX10) (T := TX10) (N := 30) hx hb hts hi10 hown hK hP 0 rfl rfl 14 (by decide) hw3 (fun _ h9 => h9) rfl dX10_sheet_61 ?_
                refine lv_iload_n hx hb dX10_sheet_64 rfl (lv_at hl 1 rfl) ?_
                refine lv_iload_n hx hb dX10_sheet_65 rfl (lv_at hl 2 rfl) ?_
                refine va_iast hx hb hK hP hD hS 8 0 rfl rfl (within_in4 c_2) dX10_sheet_66 (fun H locs hP hD hS => ?_)
                have hP : va_P D vwCl (MW cy a J (va_up I 13 (I 13)) (va_up (va_up (va_up R 8 (upd (R 8) x0.toNatClampNeg x1)) 9 (R 9)) 10 (R 10)) RJ) H := hP
                have hD : va_D A (MW cy a J (va_up I 13 (I 13)) (va_up (va_up (va_up R 8 (upd (R 8) x0.toNatClampNeg x1)) 9 (R 9)) 10 (R 10)) RJ) := hD
                refine lv_aload_n hx hb dX10_sheet_67 rfl (lv_at hl 0 rfl) ?_
                refine va_get (D := D) (ci := 9) (v := .ref (a 9)) (C := RX10) (T := TX10) (N := 30) hx hb hts hi10 hown hK hP 0 rfl rfl 15 (by decide) hw0 (fun _ h9 => h9) rfl dX10_sheet_68 ?_
                refine lv_iload_n hx hb dX10_sheet_71 rfl (lv_at hl 1 rfl) ?_
                refine lv_iload_n hx hb dX10_sheet_72 rfl (lv_at hl 2 rfl) ?_
                refine lv_if_ne (tgt := 80) hx hb dX10_sheet_73 (by decide) (fun c_31 => ?_) (fun c_31 => ?_)
                · refine lv_iload_n hx hb dX10_sheet_80 rfl (lv_at hl 3 rfl) ?_
                  refine va_iast hx hb hK hP hD hS 9 0 rfl rfl (within_in4 c_2) dX10_sheet_81 (fun H locs hP hD hS => ?_)
                  have hP : va_P D vwCl (MW cy a J (va_up I 13 (I 13)) (va_up (va_up (va_up R 8 (upd (R 8) x0.toNatClampNeg x1)) 9 (upd (R 9) x0.toNatClampNeg x2)) 10 (R 10)) RJ) H := hP
                  have hD : va_D A (MW cy a J (va_up I 13 (I 13)) (va_up (va_up (va_up R 8 (upd (R 8) x0.toNatClampNeg x1)) 9 (upd (R 9) x0.toNatClampNeg x2)) 10 (R 10)) RJ) := hD
                  have hi_32 : ∀ i, i < 4 → vp_in ((upd (R 9) x0.toNatClampNeg x2) i) 17 := all17 hM.2.2.2.2.2 (in17 c_29 c_30)
                  refine lv_iconst (v := 0) hx hb dX10_sheet_82 (by decide) ?_
                  refine lv_istore (lv' := [(4, .int 0), (0, .ref (a 0)), (1, .int x0), (2, .int x1), (3, .int x2)]) hx hb dX10_sheet_83 hl (by decide) rfl (fun ls hl => ?_)
                  exact lp85 _ 0 (I 13) (upd (R 8) x0.toNatClampNeg x1) (upd (R 9) x0.toNatClampNeg x2) (R 10) (by omega) hi_32 (within_in4 c_2) (by rw [pk_us]; simp_all [a_sheet, i32_nlt]) c_2 (Or.inr (Or.inr (Or.inr c_28))) c_29 c_30 rfl (by rw [if_neg c_31]) shI_0 (Nat.lt_succ_self _) _ _ hP hD hS ls (lv_sub hl [1, 2, 3, 4, 0] rfl)
                · refine lv_iconst (v := 0) hx hb dX10_sheet_76 (by decide) ?_
                  refine lv_goto (tgt := 81) hx hb dX10_sheet_77 (by decide) ?_
                  refine va_iast hx hb hK hP hD hS 9 0 rfl rfl (within_in4 c_2) dX10_sheet_81 (fun H locs hP hD hS => ?_)
                  have hP : va_P D vwCl (MW cy a J (va_up I 13 (I 13)) (va_up (va_up (va_up R 8 (upd (R 8) x0.toNatClampNeg x1)) 9 (upd (R 9) x0.toNatClampNeg 0)) 10 (R 10)) RJ) H := hP
                  have hD : va_D A (MW cy a J (va_up I 13 (I 13)) (va_up (va_up (va_up R 8 (upd (R 8) x0.toNatClampNeg x1)) 9 (upd (R 9) x0.toNatClampNeg 0)) 10 (R 10)) RJ) := hD
                  have hi_33 : ∀ i, i < 4 → vp_in ((upd (R 9) x0.toNatClampNeg 0) i) 17 := all17 hM.2.2.2.2.2 (by unfold vp_in; decide)
                  refine lv_iconst (v := 0) hx hb dX10_sheet_82 (by decide) ?_
                  refine lv_istore (lv' := [(4, .int 0), (0, .ref (a 0)), (1, .int x0), (2, .int x1), (3, .int x2)]) hx hb dX10_sheet_83 hl (by decide) rfl (fun ls hl => ?_)
                  exact lp85 _ 0 (I 13) (upd (R 8) x0.toNatClampNeg x1) (upd (R 9) x0.toNatClampNeg 0) (R 10) (by omega) hi_33 (within_in4 c_2) (by rw [pk_us]; simp_all [a_sheet, i32_nlt]) c_2 (Or.inr (Or.inr (Or.inr c_28))) c_29 c_30 rfl (by rw [if_pos c_31]) shI_0 (Nat.lt_succ_self _) _ _ hP hD hS ls (lv_sub hl [1, 2, 3, 4, 0] rfl)
              · refine lv_aload_n hx hb dX10_sheet_53 rfl (lv_at hl 0 rfl) ?_
                refine lv_ldc (v := (-100001)) hx hb hown hw2 dX10_sheet_54 ?_
                refine kM_i (As := [.int (-100001)]) (rest := []) (q0 := 0) ⟨hx, hb, hml, hown, hts⟩ (c_X10_finding l D cy a _ J (va_up I 13 (I 13)) (va_up (va_up (va_up R 8 (R 8)) 9 (R 9)) 10 (R 10)) RJ (-100001) ) (cwV 1 hts gX10_sheet_X10_finding rfl rfl rfl (by decide +kernel) ⟨Nat.le_of_ble_eq_true rfl, Nat.le_of_ble_eq_true rfl⟩) hK hN hP hD hS hA rfl rfl rfl hl.1 rfl (Nat.le_of_ble_eq_true rfl) dX10_sheet_56 ⟨Nat.le_of_ble_eq_true rfl, Nat.le_of_ble_eq_true rfl⟩ (fun r_34 u H locs hw hP hD hS => ?_)
                obtain ⟨rfl, rfl⟩ := hw
                have hP : va_P D vwCl (MW cy a J (va_up I 13 ((I 13) + 1)) (va_up (va_up (va_up R 8 (R 8)) 9 (R 9)) 10 (R 10)) RJ) H := hP
                have hD : va_D A (MW cy a J (va_up I 13 ((I 13) + 1)) (va_up (va_up (va_up R 8 (R 8)) 9 (R 9)) 10 (R 10)) RJ) := hD
                exact wret_i hx hb hr hlocks (J, (va_up I 13 ((I 13) + 1)), (va_up (va_up (va_up R 8 (R 8)) 9 (R 9)) 10 (R 10)), RJ) ⟨((I 13) + 1), (R 8), (R 9), (R 10), ⟨(by simp_all [a_sheet]), hM.2.2.2.2.2, (RMs_no (sOk_4 c_30) hSh)⟩, rfl⟩ hP hD hS dX10_sheet_59
            · refine lv_aload_n hx hb dX10_sheet_40 rfl (lv_at hl 0 rfl) ?_
              refine lv_ldc (v := (-100003)) hx hb hown hw4 dX10_sheet_41 ?_
              refine kM_i (As := [.int (-100003)]) (rest := []) (q0 := 0) ⟨hx, hb, hml, hown, hts⟩ (c_X10_finding l D cy a _ J (va_up I 13 (I 13)) (va_up (va_up (va_up R 8 (R 8)) 9 (R 9)) 10 (R 10)) RJ (-100003) ) (cwV 1 hts gX10_sheet_X10_finding rfl rfl rfl (by decide +kernel) ⟨Nat.le_of_ble_eq_true rfl, Nat.le_of_ble_eq_true rfl⟩) hK hN hP hD hS hA rfl rfl rfl hl.1 rfl (Nat.le_of_ble_eq_true rfl) dX10_sheet_43 ⟨Nat.le_of_ble_eq_true rfl, Nat.le_of_ble_eq_true rfl⟩ (fun r_35 u H locs hw hP hD hS => ?_)
              obtain ⟨rfl, rfl⟩ := hw
              have hP : va_P D vwCl (MW cy a J (va_up I 13 ((I 13) + 1)) (va_up (va_up (va_up R 8 (R 8)) 9 (R 9)) 10 (R 10)) RJ) H := hP
              have hD : va_D A (MW cy a J (va_up I 13 ((I 13) + 1)) (va_up (va_up (va_up R 8 (R 8)) 9 (R 9)) 10 (R 10)) RJ) := hD
              exact wret_i hx hb hr hlocks (J, (va_up I 13 ((I 13) + 1)), (va_up (va_up (va_up R 8 (R 8)) 9 (R 9)) 10 (R 10)), RJ) ⟨((I 13) + 1), (R 8), (R 9), (R 10), ⟨(by simp_all [a_sheet]), hM.2.2.2.2.2, (RMs_no (sOk_3 c_29) hSh)⟩, rfl⟩ hP hD hS dX10_sheet_46
          · refine lv_aload_n hx hb dX10_sheet_29 rfl (lv_at hl 0 rfl) ?_
            refine lv_ldc (v := (-100001)) hx hb hown hw2 dX10_sheet_30 ?_
            refine kM_i (As := [.int (-100001)]) (rest := []) (q0 := 0) ⟨hx, hb, hml, hown, hts⟩ (c_X10_finding l D cy a _ J (va_up I 13 (I 13)) (va_up (va_up (va_up R 8 (R 8)) 9 (R 9)) 10 (R 10)) RJ (-100001) ) (cwV 1 hts gX10_sheet_X10_finding rfl rfl rfl (by decide +kernel) ⟨Nat.le_of_ble_eq_true rfl, Nat.le_of_ble_eq_true rfl⟩) hK hN hP hD hS hA rfl rfl rfl hl.1 rfl (Nat.le_of_ble_eq_true rfl) dX10_sheet_32 ⟨Nat.le_of_ble_eq_true rfl, Nat.le_of_ble_eq_true rfl⟩ (fun r_36 u H locs hw hP hD hS => ?_)
            obtain ⟨rfl, rfl⟩ := hw
            have hP : va_P D vwCl (MW cy a J (va_up I 13 ((I 13) + 1)) (va_up (va_up (va_up R 8 (R 8)) 9 (R 9)) 10 (R 10)) RJ) H := hP
            have hD : va_D A (MW cy a J (va_up I 13 ((I 13) + 1)) (va_up (va_up (va_up R 8 (R 8)) 9 (R 9)) 10 (R 10)) RJ) := hD
            exact wret_i hx hb hr hlocks (J, (va_up I 13 ((I 13) + 1)), (va_up (va_up (va_up R 8 (R 8)) 9 (R 9)) 10 (R 10)), RJ) ⟨((I 13) + 1), (R 8), (R 9), (R 10), ⟨(by simp_all [a_sheet]), hM.2.2.2.2.2, (RMs_no (sOk_2 (nbOk c_4 c_12 c_20 c_28)) hSh)⟩, rfl⟩ hP hD hS dX10_sheet_35
theorem dX10_put_0 : decode cX10_put 0 = .ok (.iload_n 1, 1) := by decide +kernel
set_option maxRecDepth 20000 in
theorem ggX10_put_X10_isSheet : GoodIn wsX10_put wsX10_isSheet := goodIn_r _ [9, 10, 11, 8, 12] rfl (by decide +kernel)
set_option maxRecDepth 20000 in
theorem gX10_put_X10_isSheet : GoodIn wsX10_put (va_wsS RX10 298 yX10_isSheet wsX10_isSheet) := goodIn_app (goodIn_r _ [6, 7, 8] rfl (by decide +kernel)) ggX10_put_X10_isSheet
theorem dX10_put_1 : decode cX10_put 1 = .ok (.invokestatic 298, 3) := by decide +kernel
theorem dX10_put_4 : decode cX10_put 4 = .ok (.ifCond .ne 10, 3) := by decide +kernel
theorem dX10_put_14 : decode cX10_put 14 = .ok (.aload_n 0, 1) := by decide +kernel
theorem dX10_put_15 : decode cX10_put 15 = .ok (.getfield 33, 3) := by decide +kernel
theorem dX10_put_18 : decode cX10_put 18 = .ok (.iload_n 1, 1) := by decide +kernel
theorem dX10_put_19 : decode cX10_put 19 = .ok (.iaload, 1) := by decide +kernel
theorem dX10_put_20 : decode cX10_put 20 = .ok (.ifCond .ne 11, 3) := by decide +kernel
theorem dX10_put_31 : decode cX10_put 31 = .ok (.iload_n 2, 1) := by decide +kernel
theorem dX10_put_32 : decode cX10_put 32 = .ok (.iconst 0, 1) := by decide +kernel
theorem dX10_put_33 : decode cX10_put 33 = .ok (.aload_n 0, 1) := by decide +kernel
theorem dX10_put_34 : decode cX10_put 34 = .ok (.getfield 36, 3) := by decide +kernel
theorem dX10_put_37 : decode cX10_put 37 = .ok (.iload_n 1, 1) := by decide +kernel
theorem dX10_put_38 : decode cX10_put 38 = .ok (.iaload, 1) := by decide +kernel
theorem dX10_put_39 : decode cX10_put 39 = .ok (.iconst 1, 1) := by decide +kernel
theorem dX10_put_40 : decode cX10_put 40 = .ok (.isub, 1) := by decide +kernel
set_option maxRecDepth 20000 in
theorem ggX10_put_X10_within : GoodIn wsX10_put wsX10_within := goodIn_r _ [12] rfl (by decide +kernel)
set_option maxRecDepth 20000 in
theorem gX10_put_X10_within : GoodIn wsX10_put (va_wsS RX10 70 yX10_within wsX10_within) := goodIn_app (goodIn_r _ [10, 11, 8] rfl (by decide +kernel)) ggX10_put_X10_within
theorem dX10_put_41 : decode cX10_put 41 = .ok (.invokestatic 70, 3) := by decide +kernel
theorem dX10_put_44 : decode cX10_put 44 = .ok (.ifCond .ne 10, 3) := by decide +kernel
theorem dX10_put_54 : decode cX10_put 54 = .ok (.bipush 32, 2) := by decide +kernel
theorem dX10_put_56 : decode cX10_put 56 = .ok (.aload_n 0, 1) := by decide +kernel
theorem dX10_put_57 : decode cX10_put 57 = .ok (.getfield 33, 3) := by decide +kernel
theorem dX10_put_60 : decode cX10_put 60 = .ok (.iload_n 1, 1) := by decide +kernel
theorem dX10_put_61 : decode cX10_put 61 = .ok (.iaload, 1) := by decide +kernel
theorem dX10_put_62 : decode cX10_put 62 = .ok (.isub, 1) := by decide +kernel
theorem dX10_put_63 : decode cX10_put 63 = .ok (.istore 4, 2) := by decide +kernel
theorem dX10_put_65 : decode cX10_put 65 = .ok (.aload_n 0, 1) := by decide +kernel
theorem dX10_put_66 : decode cX10_put 66 = .ok (.getfield 39, 3) := by decide +kernel
theorem dX10_put_69 : decode cX10_put 69 = .ok (.bipush 16, 2) := by decide +kernel
theorem dX10_put_71 : decode cX10_put 71 = .ok (.iload_n 1, 1) := by decide +kernel
theorem dX10_put_72 : decode cX10_put 72 = .ok (.imul, 1) := by decide +kernel
theorem dX10_put_73 : decode cX10_put 73 = .ok (.iload_n 2, 1) := by decide +kernel
theorem dX10_put_74 : decode cX10_put 74 = .ok (.iadd, 1) := by decide +kernel
theorem dX10_put_75 : decode cX10_put 75 = .ok (.iload_n 3, 1) := by decide +kernel
theorem dX10_put_76 : decode cX10_put 76 = .ok (.iload 4, 2) := by decide +kernel
theorem dX10_put_78 : decode cX10_put 78 = .ok (.ishl, 1) := by decide +kernel
theorem dX10_put_79 : decode cX10_put 79 = .ok (.iload 4, 2) := by decide +kernel
theorem dX10_put_81 : decode cX10_put 81 = .ok (.ishr, 1) := by decide +kernel
theorem dX10_put_82 : decode cX10_put 82 = .ok (.iastore, 1) := by decide +kernel
theorem dX10_put_83 : decode cX10_put 83 = .ok (.iconst 0, 1) := by decide +kernel
theorem dX10_put_84 : decode cX10_put 84 = .ok (.ireturn, 1) := by decide +kernel
theorem dX10_put_47 : decode cX10_put 47 = .ok (.aload_n 0, 1) := by decide +kernel
theorem dX10_put_48 : decode cX10_put 48 = .ok (.ldc 141, 2) := by decide +kernel
set_option maxRecDepth 20000 in
theorem ggX10_put_X10_finding : GoodIn wsX10_put wsX10_finding := goodIn_r _ [16, 17, 18, 19, 20, 21, 22, 23, 24, 25, 26, 27, 28, 29, 30, 31, 32, 33, 34, 35, 36, 37, 38, 39, 40, 41, 42, 43, 44, 45, 46, 47] rfl (by decide +kernel)
set_option maxRecDepth 20000 in
theorem gX10_put_X10_finding : GoodIn wsX10_put (wsV RX10 99 RX10 yX10_finding wsX10_finding) := goodIn_app (goodIn_r _ [13, 14, 15, 8] rfl (by decide +kernel)) ggX10_put_X10_finding
theorem dX10_put_50 : decode cX10_put 50 = .ok (.invokevirtual 99, 3) := by decide +kernel
theorem dX10_put_53 : decode cX10_put 53 = .ok (.ireturn, 1) := by decide +kernel
theorem dX10_put_23 : decode cX10_put 23 = .ok (.aload_n 0, 1) := by decide +kernel
theorem dX10_put_24 : decode cX10_put 24 = .ok (.ldc_w 301, 3) := by decide +kernel
theorem dX10_put_27 : decode cX10_put 27 = .ok (.invokevirtual 99, 3) := by decide +kernel
theorem dX10_put_30 : decode cX10_put 30 = .ok (.ireturn, 1) := by decide +kernel
theorem dX10_put_7 : decode cX10_put 7 = .ok (.aload_n 0, 1) := by decide +kernel
theorem dX10_put_8 : decode cX10_put 8 = .ok (.ldc 141, 2) := by decide +kernel
theorem dX10_put_10 : decode cX10_put 10 = .ok (.invokevirtual 99, 3) := by decide +kernel
theorem dX10_put_13 : decode cX10_put 13 = .ok (.ireturn, 1) := by decide +kernel
set_option maxRecDepth 20000 in
theorem ihX10_put_10 : ∀ w ∈ u_ws RX10 TX10 30, w ∈ wsX10_put := fun _ h => List.mem_cons_of_mem _ (List.mem_append_right _ h)
set_option maxHeartbeats 4000000 in
set_option maxRecDepth 100000 in
theorem x_X10_put (l : Launch) (D : va_G) (cy : Nat → ClassId) (a : Nat → Nat) (sz : Nat) (J : Nat → Int64) (I : Nat → Int32) (R : Nat → Nat → Int32) (RJ : Nat → Nat → Int64) (x0 : Int32) (x1 : Int32) (x2 : Int32) (Bs : Nat → Int32) (Zs : Nat → Int32) (Vs : Nat → Nat → Int32) (hSh : RMs (R 8) (R 9) (R 10) Bs Zs Vs) (hM : MI I R) : Met l yX10_put wsX10_put ({ frames := 2, cells := 0, slots := 0, locals := 42 }) (va_Pc [.ref (a 0), .int x0, .int x1, .int x2] (PW D cy sz (MW cy a J I R RJ))) (va_Qi (fun r (u : MS) => ∃ (w0 : Int32), ∃ (w1 : Nat → Int32), (r = (pWhy Bs Zs x0 x1) ∧ (RMs (R 8) (R 9) w1 Bs Zs (aPutV Bs Zs Vs x0 x1 x2))) ∧ u = (J, (va_up I 13 w0), (va_up R 10 w1), RJ)) (BW D (va_A (MW cy a J I R RJ) sz) (MWu cy a)) (va_A (MW cy a J I R RJ) sz)) 0 0 (va_A (MW cy a J I R RJ) sz) := by
  refine Met.ofW (cc := cX10_put) (maxL := 5) (ret := (some .int)) (by decide) rfl ?_
  intro p e s m args below meth c s₁ B hml hv
  obtain ⟨rfl, rfl, hP, hK, hN, hD0⟩ := hv
  have hx := B.exec
  have hb := B.bytes
  have hr := B.returns
  have hts := atoms_spec (ws := wsX10_put) B.pre
  have hown : s.vm.findClass RX10 = some m.cls := findClass_of_methodNamed B.named
  have hlocks := B.notSynchronized
  have hw0 := hts (.fieldLink RX10 33 "ParquetLayerModel" "bits" "[I") (by decide +kernel)
  have hw1 := hts (.fieldLink RX10 36 "ParquetLayerModel" "sizes" "[I") (by decide +kernel)
  have hw2 := hts (.fieldLink RX10 39 "ParquetLayerModel" "sheets" "[I") (by decide +kernel)
  have hw3 := hts (.constant RX10 141 (-100001)) (by decide +kernel)
  have hw4 := hts (.constant RX10 301 (-100002)) (by decide +kernel)
  have hi10 := ihX10_put_10
  have hD := hD0.self (sz := s.heap.size)
  generalize hAe : va_A (MW cy a J I R RJ) s.heap.size = A at hD ⊢
  have hA : ∀ q : Nat, s.heap.size ≤ q → A q := fun q h => by rw [← hAe]; exact Or.inr h
  have hS : va_S A s.heap s.heap [] := va_S.rf
  have hl := lv_entry ([.ref (a 0), .int x0, .int x1, .int x2]) (n := 5) (Nat.le_of_ble_eq_true rfl)
  rw [lg_entry_eq]
  generalize (lg_sl ([.ref (a 0), .int x0, .int x1, .int x2]) ++ List.replicate (5 - (lg_sl ([.ref (a 0), .int x0, .int x1, .int x2])).length) Slot.unset).toArray = ls at hl ⊢
  have hl : lv_has ls 5 [(0, .ref (a 0)), (1, .int x0), (2, .int x1), (3, .int x2)] := hl
  have hP : va_P D vwCl (MW cy a J (va_up I 13 (I 13)) (va_up R 10 (R 10)) RJ) s.heap := hP
  have hD : va_D A (MW cy a J (va_up I 13 (I 13)) (va_up R 10 (R 10)) RJ) := hD
  refine lv_iload_n hx hb dX10_put_0 rfl (lv_at hl 1 rfl) ?_
  refine kS_i (As := [.int x0]) (rest := []) ⟨hx, hb, hml, hown, hts⟩ (c_X10_isSheet l x0) (va_cwS 1 hts gX10_put_X10_isSheet rfl rfl rfl (by decide +kernel) ⟨Nat.le_of_ble_eq_true rfl, Nat.le_of_ble_eq_true rfl⟩) rfl hl.1 rfl (Nat.le_of_ble_eq_true rfl) dX10_put_1 ⟨Nat.le_of_ble_eq_true rfl, Nat.le_of_ble_eq_true rfl⟩ ?_
  refine lv_if_ne (tgt := 14) hx hb dX10_put_4 (by decide) (fun c_1 => ?_) (fun c_1 => ?_)
  · replace c_1 := bI_t c_1
    refine lv_aload_n hx hb dX10_put_14 rfl (lv_at hl 0 rfl) ?_
    refine va_get (D := D) (ci := 9) (v := .ref (a 8)) (C := RX10) (T := TX10) (N := 30) hx hb hts hi10 hown hK hP 0 rfl rfl 14 (by decide) hw0 (fun _ h9 => h9) rfl dX10_put_15 ?_
    refine lv_iload_n hx hb dX10_put_18 rfl (lv_at hl 1 rfl) ?_
    refine va_iald hx hb hK hP 8 0 rfl rfl (within_in4 c_1) dX10_put_19 ?_
    refine lv_if_ne (tgt := 31) hx hb dX10_put_20 (by decide) (fun c_2 => ?_) (fun c_2 => ?_)
    · refine lv_iload_n hx hb dX10_put_31 rfl (lv_at hl 2 rfl) ?_
      refine lv_iconst (v := 0) hx hb dX10_put_32 (by decide) ?_
      refine lv_aload_n hx hb dX10_put_33 rfl (lv_at hl 0 rfl) ?_
      refine va_get (D := D) (ci := 9) (v := .ref (a 9)) (C := RX10) (T := TX10) (N := 30) hx hb hts hi10 hown hK hP 0 rfl rfl 15 (by decide) hw1 (fun _ h9 => h9) rfl dX10_put_34 ?_
      refine lv_iload_n hx hb dX10_put_37 rfl (lv_at hl 1 rfl) ?_
      refine va_iald hx hb hK hP 9 0 rfl rfl (within_in4 c_1) dX10_put_38 ?_
      refine lv_iconst (v := 1) hx hb dX10_put_39 (by decide) ?_
      refine lv_isub hx hb dX10_put_40 ?_
      refine kS_i (As := [.int x1, .int 0, .int (((R 9) x0.toNatClampNeg) - 1)]) (rest := []) ⟨hx, hb, hml, hown, hts⟩ (c_X10_within l x1 0 (((R 9) x0.toNatClampNeg) - 1)) (va_cwS 3 hts gX10_put_X10_within rfl rfl rfl (by decide +kernel) ⟨Nat.le_of_ble_eq_true rfl, Nat.le_of_ble_eq_true rfl⟩) rfl hl.1 rfl (Nat.le_of_ble_eq_true rfl) dX10_put_41 ⟨Nat.le_of_ble_eq_true rfl, Nat.le_of_ble_eq_true rfl⟩ ?_
      refine lv_if_ne (tgt := 54) hx hb dX10_put_44 (by decide) (fun c_3 => ?_) (fun c_3 => ?_)
      · replace c_3 := bI_t c_3
        refine lv_bipush (v := 32) hx hb dX10_put_54 (by decide) ?_
        refine lv_aload_n hx hb dX10_put_56 rfl (lv_at hl 0 rfl) ?_
        refine va_get (D := D) (ci := 9) (v := .ref (a 8)) (C := RX10) (T := TX10) (N := 30) hx hb hts hi10 hown hK hP 0 rfl rfl 14 (by decide) hw0 (fun _ h9 => h9) rfl dX10_put_57 ?_
        refine lv_iload_n hx hb dX10_put_60 rfl (lv_at hl 1 rfl) ?_
        refine va_iald hx hb hK hP 8 0 rfl rfl (within_in4 c_1) dX10_put_61 ?_
        refine lv_isub hx hb dX10_put_62 ?_
        refine lv_istore (lv' := [(4, .int (32 - ((R 8) x0.toNatClampNeg))), (0, .ref (a 0)), (1, .int x0), (2, .int x1), (3, .int x2)]) hx hb dX10_put_63 hl (by decide) rfl (fun ls hl => ?_)
        refine lv_aload_n hx hb dX10_put_65 rfl (lv_at hl 1 rfl) ?_
        refine va_get (D := D) (ci := 9) (v := .ref (a 10)) (C := RX10) (T := TX10) (N := 30) hx hb hts hi10 hown hK hP 0 rfl rfl 16 (by decide) hw2 (fun _ h9 => h9) rfl dX10_put_66 ?_
        refine lv_bipush (v := 16) hx hb dX10_put_69 (by decide) ?_
        refine lv_iload_n hx hb dX10_put_71 rfl (lv_at hl 2 rfl) ?_
        refine lv_imul hx hb dX10_put_72 ?_
        refine lv_iload_n hx hb dX10_put_73 rfl (lv_at hl 3 rfl) ?_
        refine lv_iadd hx hb dX10_put_74 ?_
        refine lv_iload_n hx hb dX10_put_75 rfl (lv_at hl 4 rfl) ?_
        refine lv_iload hx hb dX10_put_76 (lv_at hl 0 rfl) ?_
        refine lv_ishl hx hb dX10_put_78 ?_
        refine lv_iload hx hb dX10_put_79 (lv_at hl 0 rfl) ?_
        refine lv_ishr hx hb dX10_put_81 ?_
        refine va_iast hx hb hK hP hD hS 10 0 rfl rfl (put_in (within_in4 c_1) (hM.2.2.2.2.2 _ (in_lt (within_in4 c_1))) c_3) dX10_put_82 (fun H locs hP hD hS => ?_)
        have hP : va_P D vwCl (MW cy a J (va_up I 13 (I 13)) (va_up R 10 (upd (R 10) ((16 * x0) + x1).toNatClampNeg ((x2 <<< ((32 - ((R 8) x0.toNatClampNeg)) &&& 31)) >>> ((32 - ((R 8) x0.toNatClampNeg)) &&& 31)))) RJ) H := hP
        have hD : va_D A (MW cy a J (va_up I 13 (I 13)) (va_up R 10 (upd (R 10) ((16 * x0) + x1).toNatClampNeg ((x2 <<< ((32 - ((R 8) x0.toNatClampNeg)) &&& 31)) >>> ((32 - ((R 8) x0.toNatClampNeg)) &&& 31)))) RJ) := hD
        refine lv_iconst (v := 0) hx hb dX10_put_83 (by decide) ?_
        exact wret_i hx hb hr hlocks (J, (va_up I 13 (I 13)), (va_up R 10 (upd (R 10) ((16 * x0) + x1).toNatClampNeg ((x2 <<< ((32 - ((R 8) x0.toNatClampNeg)) &&& 31)) >>> ((32 - ((R 8) x0.toNatClampNeg)) &&& 31)))), RJ) ⟨(I 13), (upd (R 10) ((16 * x0) + x1).toNatClampNeg ((x2 <<< ((32 - ((R 8) x0.toNatClampNeg)) &&& 31)) >>> ((32 - ((R 8) x0.toNatClampNeg)) &&& 31))), ⟨(pw4 c_1 (by rw [← (hSh _ (in_lt (within_in4 c_1))).1]; exact c_2) (by rw [← (hSh _ (in_lt (within_in4 c_1))).2.1]; exact c_3)), (RMs_put hSh c_1 (pw4 c_1 (by rw [← (hSh _ (in_lt (within_in4 c_1))).1]; exact c_2) (by rw [← (hSh _ (in_lt (within_in4 c_1))).2.1]; exact c_3)) (sz_in (hM.2.2.2.2.2 _ (in_lt (within_in4 c_1))) c_3) (se_all (b := R 8 x0.toNatClampNeg) (by rw [(hSh _ (in_lt (within_in4 c_1))).1]; exact (hSh _ (in_lt (within_in4 c_1))).2.2.2.1) c_2 x2))⟩, rfl⟩ hP hD hS dX10_put_84
      · replace c_3 := bI_f c_3
        refine lv_aload_n hx hb dX10_put_47 rfl (lv_at hl 0 rfl) ?_
        refine lv_ldc (v := (-100001)) hx hb hown hw3 dX10_put_48 ?_
        refine kM_i (As := [.int (-100001)]) (rest := []) (q0 := 0) ⟨hx, hb, hml, hown, hts⟩ (c_X10_finding l D cy a _ J (va_up I 13 (I 13)) (va_up R 10 (R 10)) RJ (-100001) ) (cwV 1 hts gX10_put_X10_finding rfl rfl rfl (by decide +kernel) ⟨Nat.le_of_ble_eq_true rfl, Nat.le_of_ble_eq_true rfl⟩) hK hN hP hD hS hA rfl rfl rfl hl.1 rfl (Nat.le_of_ble_eq_true rfl) dX10_put_50 ⟨Nat.le_of_ble_eq_true rfl, Nat.le_of_ble_eq_true rfl⟩ (fun r_4 u H locs hw hP hD hS => ?_)
        obtain ⟨rfl, rfl⟩ := hw
        have hP : va_P D vwCl (MW cy a J (va_up I 13 ((I 13) + 1)) (va_up R 10 (R 10)) RJ) H := hP
        have hD : va_D A (MW cy a J (va_up I 13 ((I 13) + 1)) (va_up R 10 (R 10)) RJ) := hD
        exact wret_i hx hb hr hlocks (J, (va_up I 13 ((I 13) + 1)), (va_up R 10 (R 10)), RJ) ⟨((I 13) + 1), (R 10), ⟨(pw3 c_1 (by rw [← (hSh _ (in_lt (within_in4 c_1))).1]; exact c_2) (by rw [← (hSh _ (in_lt (within_in4 c_1))).2.1]; exact c_3)), (by rw [pv_no (pw3 c_1 (by rw [← (hSh _ (in_lt (within_in4 c_1))).1]; exact c_2) (by rw [← (hSh _ (in_lt (within_in4 c_1))).2.1]; exact c_3)) (by decide)]; exact hSh)⟩, rfl⟩ hP hD hS dX10_put_53
    · refine lv_aload_n hx hb dX10_put_23 rfl (lv_at hl 0 rfl) ?_
      refine lv_ldcw (v := (-100002)) hx hb hown hw4 dX10_put_24 ?_
      refine kM_i (As := [.int (-100002)]) (rest := []) (q0 := 0) ⟨hx, hb, hml, hown, hts⟩ (c_X10_finding l D cy a _ J (va_up I 13 (I 13)) (va_up R 10 (R 10)) RJ (-100002) ) (cwV 1 hts gX10_put_X10_finding rfl rfl rfl (by decide +kernel) ⟨Nat.le_of_ble_eq_true rfl, Nat.le_of_ble_eq_true rfl⟩) hK hN hP hD hS hA rfl rfl rfl hl.1 rfl (Nat.le_of_ble_eq_true rfl) dX10_put_27 ⟨Nat.le_of_ble_eq_true rfl, Nat.le_of_ble_eq_true rfl⟩ (fun r_5 u H locs hw hP hD hS => ?_)
      obtain ⟨rfl, rfl⟩ := hw
      have hP : va_P D vwCl (MW cy a J (va_up I 13 ((I 13) + 1)) (va_up R 10 (R 10)) RJ) H := hP
      have hD : va_D A (MW cy a J (va_up I 13 ((I 13) + 1)) (va_up R 10 (R 10)) RJ) := hD
      exact wret_i hx hb hr hlocks (J, (va_up I 13 ((I 13) + 1)), (va_up R 10 (R 10)), RJ) ⟨((I 13) + 1), (R 10), ⟨(pw2 c_1 (by rw [← (hSh _ (in_lt (within_in4 c_1))).1]; exact c_2)), (by rw [pv_no (pw2 c_1 (by rw [← (hSh _ (in_lt (within_in4 c_1))).1]; exact c_2)) (by decide)]; exact hSh)⟩, rfl⟩ hP hD hS dX10_put_30
  · replace c_1 := bI_f c_1
    refine lv_aload_n hx hb dX10_put_7 rfl (lv_at hl 0 rfl) ?_
    refine lv_ldc (v := (-100001)) hx hb hown hw3 dX10_put_8 ?_
    refine kM_i (As := [.int (-100001)]) (rest := []) (q0 := 0) ⟨hx, hb, hml, hown, hts⟩ (c_X10_finding l D cy a _ J (va_up I 13 (I 13)) (va_up R 10 (R 10)) RJ (-100001) ) (cwV 1 hts gX10_put_X10_finding rfl rfl rfl (by decide +kernel) ⟨Nat.le_of_ble_eq_true rfl, Nat.le_of_ble_eq_true rfl⟩) hK hN hP hD hS hA rfl rfl rfl hl.1 rfl (Nat.le_of_ble_eq_true rfl) dX10_put_10 ⟨Nat.le_of_ble_eq_true rfl, Nat.le_of_ble_eq_true rfl⟩ (fun r_6 u H locs hw hP hD hS => ?_)
    obtain ⟨rfl, rfl⟩ := hw
    have hP : va_P D vwCl (MW cy a J (va_up I 13 ((I 13) + 1)) (va_up R 10 (R 10)) RJ) H := hP
    have hD : va_D A (MW cy a J (va_up I 13 ((I 13) + 1)) (va_up R 10 (R 10)) RJ) := hD
    exact wret_i hx hb hr hlocks (J, (va_up I 13 ((I 13) + 1)), (va_up R 10 (R 10)), RJ) ⟨((I 13) + 1), (R 10), ⟨(pw1 c_1), (by rw [pv_no (pw1 c_1) (by decide)]; exact hSh)⟩, rfl⟩ hP hD hS dX10_put_13
theorem dX10_planks_54 : decode cX10_planks 54 = .ok (.iload 4, 2) := by decide +kernel
theorem dX10_planks_56 : decode cX10_planks 56 = .ok (.aload_n 0, 1) := by decide +kernel
theorem dX10_planks_57 : decode cX10_planks 57 = .ok (.getfield 36, 3) := by decide +kernel
theorem dX10_planks_60 : decode cX10_planks 60 = .ok (.iload_n 1, 1) := by decide +kernel
theorem dX10_planks_61 : decode cX10_planks 61 = .ok (.iaload, 1) := by decide +kernel
theorem dX10_planks_62 : decode cX10_planks 62 = .ok (.if_icmp .ge 35, 3) := by decide +kernel
theorem dX10_planks_97 : decode cX10_planks 97 = .ok (.aload_n 0, 1) := by decide +kernel
theorem dX10_planks_98 : decode cX10_planks 98 = .ok (.lload_n 2, 1) := by decide +kernel
set_option maxRecDepth 20000 in
theorem ggX10_planks_X10_newFloor : GoodIn wsX10_planks wsX10_newFloor := goodIn_r _ [22, 23, 24, 25, 26, 27, 28, 29, 30, 9, 31, 32, 33, 34, 35, 36, 37, 38, 39, 40, 14, 15, 16, 17, 18, 41, 42, 43, 44, 45, 46, 47, 48, 49, 50, 51, 52, 53, 11, 12, 13, 54, 55, 56, 57, 58, 59, 60, 61, 62, 63, 64, 65, 66, 67, 68, 69, 70, 71, 72, 73, 74, 75, 76, 77, 78, 79, 80, 81, 82, 83, 84, 85, 86, 87, 88, 89, 90, 91, 92, 93, 94, 95, 96, 97, 98, 99, 100, 101, 102, 103] rfl (by decide +kernel)
set_option maxRecDepth 20000 in
theorem gX10_planks_X10_newFloor : GoodIn wsX10_planks (wsV RX10 144 RX10 yX10_newFloor wsX10_newFloor) := goodIn_app (goodIn_r _ [19, 20, 21, 9] rfl (by decide +kernel)) ggX10_planks_X10_newFloor
theorem dX10_planks_99 : decode cX10_planks 99 = .ok (.invokevirtual 144, 3) := by decide +kernel
theorem dX10_planks_102 : decode cX10_planks 102 = .ok (.ireturn, 1) := by decide +kernel
theorem dX10_planks_65 : decode cX10_planks 65 = .ok (.lload_n 2, 1) := by decide +kernel
theorem dX10_planks_66 : decode cX10_planks 66 = .ok (.aload_n 0, 1) := by decide +kernel
theorem dX10_planks_67 : decode cX10_planks 67 = .ok (.getfield 39, 3) := by decide +kernel
theorem dX10_planks_70 : decode cX10_planks 70 = .ok (.bipush 16, 2) := by decide +kernel
theorem dX10_planks_72 : decode cX10_planks 72 = .ok (.iload_n 1, 1) := by decide +kernel
theorem dX10_planks_73 : decode cX10_planks 73 = .ok (.imul, 1) := by decide +kernel
theorem dX10_planks_74 : decode cX10_planks 74 = .ok (.iload 4, 2) := by decide +kernel
theorem dX10_planks_76 : decode cX10_planks 76 = .ok (.iadd, 1) := by decide +kernel
theorem dX10_planks_77 : decode cX10_planks 77 = .ok (.iaload, 1) := by decide +kernel
theorem dX10_planks_78 : decode cX10_planks 78 = .ok (.sipush 255, 3) := by decide +kernel
theorem dX10_planks_81 : decode cX10_planks 81 = .ok (.iand, 1) := by decide +kernel
theorem dX10_planks_82 : decode cX10_planks 82 = .ok (.i2l, 1) := by decide +kernel
theorem dX10_planks_83 : decode cX10_planks 83 = .ok (.bipush 8, 2) := by decide +kernel
theorem dX10_planks_85 : decode cX10_planks 85 = .ok (.iload 4, 2) := by decide +kernel
theorem dX10_planks_87 : decode cX10_planks 87 = .ok (.imul, 1) := by decide +kernel
theorem dX10_planks_88 : decode cX10_planks 88 = .ok (.lshl, 1) := by decide +kernel
theorem dX10_planks_89 : decode cX10_planks 89 = .ok (.lor, 1) := by decide +kernel
theorem dX10_planks_90 : decode cX10_planks 90 = .ok (.lstore_n 2, 1) := by decide +kernel
theorem dX10_planks_91 : decode cX10_planks 91 = .ok (.iinc 4 1, 3) := by decide +kernel
theorem dX10_planks_94 : decode cX10_planks 94 = .ok (.goto (-40), 3) := by decide +kernel
theorem dX10_planks_0 : decode cX10_planks 0 = .ok (.iload_n 1, 1) := by decide +kernel
set_option maxRecDepth 20000 in
theorem ggX10_planks_X10_isSheet : GoodIn wsX10_planks wsX10_isSheet := goodIn_r _ [10, 11, 12, 9, 13] rfl (by decide +kernel)
set_option maxRecDepth 20000 in
theorem gX10_planks_X10_isSheet : GoodIn wsX10_planks (va_wsS RX10 298 yX10_isSheet wsX10_isSheet) := goodIn_app (goodIn_r _ [7, 8, 9] rfl (by decide +kernel)) ggX10_planks_X10_isSheet
theorem dX10_planks_1 : decode cX10_planks 1 = .ok (.invokestatic 298, 3) := by decide +kernel
theorem dX10_planks_4 : decode cX10_planks 4 = .ok (.ifCond .ne 10, 3) := by decide +kernel
theorem dX10_planks_14 : decode cX10_planks 14 = .ok (.aload_n 0, 1) := by decide +kernel
theorem dX10_planks_15 : decode cX10_planks 15 = .ok (.getfield 33, 3) := by decide +kernel
theorem dX10_planks_18 : decode cX10_planks 18 = .ok (.iload_n 1, 1) := by decide +kernel
theorem dX10_planks_19 : decode cX10_planks 19 = .ok (.iaload, 1) := by decide +kernel
theorem dX10_planks_20 : decode cX10_planks 20 = .ok (.ifCond .ne 11, 3) := by decide +kernel
theorem dX10_planks_31 : decode cX10_planks 31 = .ok (.aload_n 0, 1) := by decide +kernel
theorem dX10_planks_32 : decode cX10_planks 32 = .ok (.getfield 36, 3) := by decide +kernel
theorem dX10_planks_35 : decode cX10_planks 35 = .ok (.iload_n 1, 1) := by decide +kernel
theorem dX10_planks_36 : decode cX10_planks 36 = .ok (.iaload, 1) := by decide +kernel
theorem dX10_planks_37 : decode cX10_planks 37 = .ok (.bipush 8, 2) := by decide +kernel
theorem dX10_planks_39 : decode cX10_planks 39 = .ok (.if_icmp .le 10, 3) := by decide +kernel
theorem dX10_planks_49 : decode cX10_planks 49 = .ok (.lconst 0, 1) := by decide +kernel
theorem dX10_planks_50 : decode cX10_planks 50 = .ok (.lstore_n 2, 1) := by decide +kernel
theorem dX10_planks_51 : decode cX10_planks 51 = .ok (.iconst 0, 1) := by decide +kernel
theorem dX10_planks_52 : decode cX10_planks 52 = .ok (.istore 4, 2) := by decide +kernel
theorem dX10_planks_42 : decode cX10_planks 42 = .ok (.aload_n 0, 1) := by decide +kernel
theorem dX10_planks_43 : decode cX10_planks 43 = .ok (.ldc 176, 2) := by decide +kernel
set_option maxRecDepth 20000 in
theorem ggX10_planks_X10_finding : GoodIn wsX10_planks wsX10_finding := goodIn_r _ [17, 18, 74, 75, 76, 77, 78, 79, 80, 81, 82, 83, 84, 85, 86, 87, 88, 89, 90, 91, 92, 93, 94, 95, 96, 97, 98, 99, 100, 101, 102, 103] rfl (by decide +kernel)
set_option maxRecDepth 20000 in
theorem gX10_planks_X10_finding : GoodIn wsX10_planks (wsV RX10 99 RX10 yX10_finding wsX10_finding) := goodIn_app (goodIn_r _ [14, 15, 16, 9] rfl (by decide +kernel)) ggX10_planks_X10_finding
theorem dX10_planks_45 : decode cX10_planks 45 = .ok (.invokevirtual 99, 3) := by decide +kernel
theorem dX10_planks_48 : decode cX10_planks 48 = .ok (.ireturn, 1) := by decide +kernel
theorem dX10_planks_23 : decode cX10_planks 23 = .ok (.aload_n 0, 1) := by decide +kernel
theorem dX10_planks_24 : decode cX10_planks 24 = .ok (.ldc_w 301, 3) := by decide +kernel
theorem dX10_planks_27 : decode cX10_planks 27 = .ok (.invokevirtual 99, 3) := by decide +kernel
theorem dX10_planks_30 : decode cX10_planks 30 = .ok (.ireturn, 1) := by decide +kernel
theorem dX10_planks_7 : decode cX10_planks 7 = .ok (.aload_n 0, 1) := by decide +kernel
theorem dX10_planks_8 : decode cX10_planks 8 = .ok (.ldc 141, 2) := by decide +kernel
theorem dX10_planks_10 : decode cX10_planks 10 = .ok (.invokevirtual 99, 3) := by decide +kernel
theorem dX10_planks_13 : decode cX10_planks 13 = .ok (.ireturn, 1) := by decide +kernel
set_option maxRecDepth 20000 in
theorem ihX10_planks_10 : ∀ w ∈ u_ws RX10 TX10 30, w ∈ wsX10_planks := fun _ h => List.mem_cons_of_mem _ (List.mem_append_right _ h)
set_option maxHeartbeats 4000000 in
set_option maxRecDepth 100000 in
theorem x_X10_planks (l : Launch) (D : va_G) (cy : Nat → ClassId) (a : Nat → Nat) (sz : Nat) (J : Nat → Int64) (I : Nat → Int32) (R : Nat → Nat → Int32) (RJ : Nat → Nat → Int64) (x0 : Int32) (Bs : Nat → Int32) (Zs : Nat → Int32) (Vs : Nat → Nat → Int32) (fl : Int64) (S : List Int32) (P : List PE) (hSh : RMs (R 8) (R 9) (R 10) Bs Zs Vs) (hRA : RMf (J 0) (I 1) (I 12) (R 1) (R 3) (R 4) (RJ 2) fl S P) (hM : MI I R) : Met l yX10_planks wsX10_planks ({ frames := 5, cells := 0, slots := 0, locals := 115 }) (va_Pc [.ref (a 0), .int x0] (PW D cy sz (MW cy a J I R RJ))) (va_Qi (fun r (u : MS) => ∃ (w0 : Int64), ∃ (w1 : Int32), ∃ (w2 : Int32), ∃ (w3 : Int32), ∃ (w4 : Nat → Int32), ∃ (w5 : Nat → Int32), ∃ (w6 : Nat → Int32), ∃ (w7 : Nat → Int64), ∃ (w8 : Nat → Int64), ∃ (w9 : Nat → Int64), (r = (aPlA Bs Zs Vs S x0) ∧ (isB w1) ∧ (vp_in w2 21) ∧ (∀ i, i < 20 → vp_in (w4 i) 21) ∧ (∀ i, i < 20 → isB (w6 i)) ∧ (RMf w0 (I 1) w2 (R 1) w4 w5 w7 (aPlF Bs Zs Vs fl S x0) S (aPlP Bs Zs Vs fl S P x0))) ∧ u = ((va_up J 0 w0), (va_up (va_up (va_up I 3 w1) 12 w2) 13 w3), (va_up (va_up (va_up R 3 w4) 4 w5) 5 w6), (va_up (va_up (va_up RJ 2 w7) 6 w8) 7 w9))) (BW D (va_A (MW cy a J I R RJ) sz) (MWu cy a)) (va_A (MW cy a J I R RJ) sz)) 0 0 (va_A (MW cy a J I R RJ) sz) := by
  refine Met.ofW (cc := cX10_planks) (maxL := 5) (ret := (some .int)) (by decide) rfl ?_
  intro p e s m args below meth c s₁ B hml hv
  obtain ⟨rfl, rfl, hP, hK, hN, hD0⟩ := hv
  have hx := B.exec
  have hb := B.bytes
  have hr := B.returns
  have hts := atoms_spec (ws := wsX10_planks) B.pre
  have hown : s.vm.findClass RX10 = some m.cls := findClass_of_methodNamed B.named
  have hlocks := B.notSynchronized
  have hw0 := hts (.fieldLink RX10 36 "ParquetLayerModel" "sizes" "[I") (by decide +kernel)
  have hw1 := hts (.fieldLink RX10 39 "ParquetLayerModel" "sheets" "[I") (by decide +kernel)
  have hw2 := hts (.fieldLink RX10 33 "ParquetLayerModel" "bits" "[I") (by decide +kernel)
  have hw3 := hts (.constant RX10 176 (-100003)) (by decide +kernel)
  have hw4 := hts (.constant RX10 301 (-100002)) (by decide +kernel)
  have hw5 := hts (.constant RX10 141 (-100001)) (by decide +kernel)
  have hi10 := ihX10_planks_10
  have hD := hD0.self (sz := s.heap.size)
  generalize hAe : va_A (MW cy a J I R RJ) s.heap.size = A at hD ⊢
  have hA : ∀ q : Nat, s.heap.size ≤ q → A q := fun q h => by rw [← hAe]; exact Or.inr h
  have hS : va_S A s.heap s.heap [] := va_S.rf
  have hl := lv_entry ([.ref (a 0), .int x0]) (n := 5) (Nat.le_of_ble_eq_true rfl)
  rw [lg_entry_eq]
  generalize (lg_sl ([.ref (a 0), .int x0]) ++ List.replicate (5 - (lg_sl ([.ref (a 0), .int x0])).length) Slot.unset).toArray = ls at hl ⊢
  have hl : lv_has ls 5 [(0, .ref (a 0)), (1, .int x0)] := hl
  have hP : va_P D vwCl (MW cy a (va_up J 0 (J 0)) (va_up (va_up (va_up I 3 (I 3)) 12 (I 12)) 13 (I 13)) (va_up (va_up (va_up R 3 (R 3)) 4 (R 4)) 5 (R 5)) (va_up (va_up (va_up RJ 2 (RJ 2)) 6 (RJ 6)) 7 (RJ 7))) s.heap := hP
  have hD : va_D A (MW cy a (va_up J 0 (J 0)) (va_up (va_up (va_up I 3 (I 3)) 12 (I 12)) 13 (I 13)) (va_up (va_up (va_up R 3 (R 3)) 4 (R 4)) 5 (R 5)) (va_up (va_up (va_up RJ 2 (RJ 2)) 6 (RJ 6)) 7 (RJ 7))) := hD
  have lp54 : ∀ (n54 : Nat), ∀ (i : Nat) (m0_54 : Int64) (m1_54 : Int32) (m2_54 : Int32) (m3_54 : Int32) (m4_54 : Nat → Int32) (m5_54 : Nat → Int32) (m6_54 : Nat → Int32) (m7_54 : Nat → Int64) (m8_54 : Nat → Int64) (m9_54 : Nat → Int64), (i ≤ (R 9 x0.toNatClampNeg).toNatClampNeg) → (isB m1_54) → (vp_in m2_54 21) → (∀ i, i < 20 → vp_in (m4_54 i) 21) → (∀ i, i < 20 → isB (m6_54 i)) → (vp_in x0 4) → (m_within x0 0 3 = true) → (plW Bs Zs x0 = 0) → (RMf m0_54 (I 1) m2_54 (R 1) m4_54 m5_54 m7_54 fl S P) → ((R 9 x0.toNatClampNeg).toNatClampNeg - i) < n54 → ∀ (H : Heap) (locs : List Loc), va_P D vwCl (MW cy a (va_up J 0 m0_54) (va_up (va_up (va_up I 3 m1_54) 12 m2_54) 13 m3_54) (va_up (va_up (va_up R 3 m4_54) 4 m5_54) 5 m6_54) (va_up (va_up (va_up RJ 2 m7_54) 6 m8_54) 7 m9_54)) H → va_D A (MW cy a (va_up J 0 m0_54) (va_up (va_up (va_up I 3 m1_54) 12 m2_54) 13 m3_54) (va_up (va_up (va_up R 3 m4_54) 4 m5_54) 5 m6_54) (va_up (va_up (va_up RJ 2 m7_54) 6 m8_54) 7 m9_54)) → va_S A s.heap H locs → ∀ (ls : Array Slot), lv_has ls 5 [(0, .ref (a 0)), (1, .int x0), (2, .long (plT (fun y => R 10 ((16 : Int32) * x0 + nI y).toNatClampNeg &&& 255) i)), (4, .int (nI i))] → W p l e (headSpec wsX10_planks ({ frames := 5, cells := 0, slots := 0, locals := 115 })).room s m ([.ref (a 0), .int x0] : List Value).toArray below meth c H locs 0 0 (MQ below (va_Qi (fun r (u : MS) => ∃ (w0 : Int64), ∃ (w1 : Int32), ∃ (w2 : Int32), ∃ (w3 : Int32), ∃ (w4 : Nat → Int32), ∃ (w5 : Nat → Int32), ∃ (w6 : Nat → Int32), ∃ (w7 : Nat → Int64), ∃ (w8 : Nat → Int64), ∃ (w9 : Nat → Int64), (r = (aPlA Bs Zs Vs S x0) ∧ (isB w1) ∧ (vp_in w2 21) ∧ (∀ i, i < 20 → vp_in (w4 i) 21) ∧ (∀ i, i < 20 → isB (w6 i)) ∧ (RMf w0 (I 1) w2 (R 1) w4 w5 w7 (aPlF Bs Zs Vs fl S x0) S (aPlP Bs Zs Vs fl S P x0))) ∧ u = ((va_up J 0 w0), (va_up (va_up (va_up I 3 w1) 12 w2) 13 w3), (va_up (va_up (va_up R 3 w4) 4 w5) 5 w6), (va_up (va_up (va_up RJ 2 w7) 6 w8) 7 w9))) (BW D A (MWu cy a)) A) ([.ref (a 0), .int x0] : List Value).toArray s 0 0 A) (F0 m 54 ls []) := by
    intro n54
    induction n54 with
    | zero => intro i m0_54 m1_54 m2_54 m3_54 m4_54 m5_54 m6_54 m7_54 m8_54 m9_54 hi hm_m1_54 hm_m2_54 hm_m4_54 hm_m6_54 hv4 hw hpw hRA2 hn; exact absurd hn (Nat.not_lt_zero _)
    | succ n54 ih54 =>
      intro i m0_54 m1_54 m2_54 m3_54 m4_54 m5_54 m6_54 m7_54 m8_54 m9_54 hi hm_m1_54 hm_m2_54 hm_m4_54 hm_m6_54 hv4 hw hpw hRA2 hn54 H locs hP hD hS ls hl
      refine lv_iload hx hb dX10_planks_54 (lv_at hl 3 rfl) ?_
      refine lv_aload_n hx hb dX10_planks_56 rfl (lv_at hl 0 rfl) ?_
      refine va_get (D := D) (ci := 9) (v := .ref (a 9)) (C := RX10) (T := TX10) (N := 30) hx hb hts hi10 hown hK hP 0 rfl rfl 15 (by decide) hw0 (fun _ h9 => h9) rfl dX10_planks_57 ?_
      refine lv_iload_n hx hb dX10_planks_60 rfl (lv_at hl 1 rfl) ?_
      refine va_iald hx hb hK hP 9 0 rfl rfl hv4 dX10_planks_61 ?_
      refine lv_icmp_ge (tgt := 97) hx hb dX10_planks_62 (by decide) (fun c_1 => ?_) (fun c_1 => ?_)
      · have hie := cz_ge (hM.2.2.2.2.2 _ (in_lt hv4)) hi c_1
        refine lv_aload_n hx hb dX10_planks_97 rfl (lv_at hl 0 rfl) ?_
        refine lv_lload_n hx hb dX10_planks_98 rfl (lv_at hl 2 rfl) ?_
        refine kM_i (As := [.long (plT (fun y => R 10 ((16 : Int32) * x0 + nI y).toNatClampNeg &&& 255) i)]) (rest := []) (q0 := 0) ⟨hx, hb, hml, hown, hts⟩ (x_X10_newFloor l D cy a _ (va_up J 0 m0_54) (va_up (va_up (va_up I 3 m1_54) 12 m2_54) 13 m3_54) (va_up (va_up (va_up R 3 m4_54) 4 m5_54) 5 m6_54) (va_up (va_up (va_up RJ 2 m7_54) 6 m8_54) 7 m9_54) (plT (fun y => R 10 ((16 : Int32) * x0 + nI y).toNatClampNeg &&& 255) i) fl S P hRA2 ⟨hM.1, hm_m1_54, hm_m2_54, hm_m4_54, hm_m6_54, hM.2.2.2.2.2⟩) (cwV 1 hts gX10_planks_X10_newFloor rfl rfl rfl (by decide +kernel) ⟨Nat.le_of_ble_eq_true rfl, Nat.le_of_ble_eq_true rfl⟩) hK hN hP hD hS hA rfl rfl rfl hl.1 rfl (Nat.le_of_ble_eq_true rfl) dX10_planks_99 ⟨Nat.le_of_ble_eq_true rfl, Nat.le_of_ble_eq_true rfl⟩ (fun r_2 u H locs hw hP hD hS => ?_)
        obtain ⟨w_3, w_4, w_5, w_6, w_7, w_8, w_9, w_10, w_11, w_12, ⟨rfl, hi_13, hi_14, hi_15, hi_16, hp_17⟩, rfl⟩ := hw
        have hP : va_P D vwCl (MW cy a (va_up J 0 w_3) (va_up (va_up (va_up I 3 w_4) 12 w_5) 13 w_6) (va_up (va_up (va_up R 3 w_7) 4 w_8) 5 w_9) (va_up (va_up (va_up RJ 2 w_10) 6 w_11) 7 w_12)) H := hP
        have hD : va_D A (MW cy a (va_up J 0 w_3) (va_up (va_up (va_up I 3 w_4) 12 w_5) 13 w_6) (va_up (va_up (va_up R 3 w_7) 4 w_8) 5 w_9) (va_up (va_up (va_up RJ 2 w_10) 6 w_11) 7 w_12)) := hD
        exact wret_i hx hb hr hlocks ((va_up J 0 w_3), (va_up (va_up (va_up I 3 w_4) 12 w_5) 13 w_6), (va_up (va_up (va_up R 3 w_7) 4 w_8) 5 w_9), (va_up (va_up (va_up RJ 2 w_10) 6 w_11) 7 w_12)) ⟨w_3, w_4, w_5, w_6, w_7, w_8, w_9, w_10, w_11, w_12, ⟨(pl_in (fl := fl) (P := P) hpw (plM_eq hSh hw hie)).1, hi_13, hi_14, hi_15, hi_16, (plM_in hpw (plM_eq hSh hw hie) hp_17)⟩, rfl⟩ hP hD hS dX10_planks_102
      · have hlt := cl_lt hi c_1
        have hlt17 := in_lt (hM.2.2.2.2.2 _ (in_lt hv4))
        refine lv_lload_n hx hb dX10_planks_65 rfl (lv_at hl 2 rfl) ?_
        refine lv_aload_n hx hb dX10_planks_66 rfl (lv_at hl 0 rfl) ?_
        refine va_get (D := D) (ci := 9) (v := .ref (a 10)) (C := RX10) (T := TX10) (N := 30) hx hb hts hi10 hown hK hP 0 rfl rfl 16 (by decide) hw1 (fun _ h9 => h9) rfl dX10_planks_67 ?_
        refine lv_bipush (v := 16) hx hb dX10_planks_70 (by decide) ?_
        refine lv_iload_n hx hb dX10_planks_72 rfl (lv_at hl 1 rfl) ?_
        refine lv_imul hx hb dX10_planks_73 ?_
        refine lv_iload hx hb dX10_planks_74 (lv_at hl 3 rfl) ?_
        refine lv_iadd hx hb dX10_planks_76 ?_
        refine va_iald hx hb hK hP 10 0 rfl rfl (ix16 hv4 (by omega)) dX10_planks_77 ?_
        refine lv_sipush (v := 255) hx hb dX10_planks_78 (by decide) ?_
        refine lv_iand hx hb dX10_planks_81 ?_
        refine lv_i2l (v := (((R 10) ((16 * x0) + (nI i)).toNatClampNeg) &&& 255 : Int32).toInt64) hx hb dX10_planks_82 rfl ?_
        refine lv_bipush (v := 8) hx hb dX10_planks_83 (by decide) ?_
        refine lv_iload hx hb dX10_planks_85 (lv_at hl 3 rfl) ?_
        refine lv_imul hx hb dX10_planks_87 ?_
        refine lv_lshl (v := ((((R 10) ((16 * x0) + (nI i)).toNatClampNeg) &&& 255 : Int32).toInt64) <<< ((8 * (nI i) : Int32).toInt64 &&& 63)) hx hb dX10_planks_88 rfl ?_
        refine lv_lor hx hb dX10_planks_89 ?_
        refine lv_lstore_n (lv' := [(2, .long ((plT (fun y => R 10 ((16 : Int32) * x0 + nI y).toNatClampNeg &&& 255) i) ||| (((((R 10) ((16 * x0) + (nI i)).toNatClampNeg) &&& 255 : Int32).toInt64) <<< ((8 * (nI i) : Int32).toInt64 &&& 63)))), (0, .ref (a 0)), (1, .int x0), (4, .int (nI i))]) hx hb dX10_planks_90 rfl hl (by decide) rfl (fun ls hl => ?_)
        refine lv_iinc (v := nI (i + 1)) (lv' := [(4, .int (nI (i + 1))), (2, .long ((plT (fun y => R 10 ((16 : Int32) * x0 + nI y).toNatClampNeg &&& 255) i) ||| (((((R 10) ((16 * x0) + (nI i)).toNatClampNeg) &&& 255 : Int32).toInt64) <<< ((8 * (nI i) : Int32).toInt64 &&& 63)))), (0, .ref (a 0)), (1, .int x0)]) hx hb dX10_planks_91 hl (k := 3) rfl (nI_1 _) (by decide) rfl (fun ls hl => ?_)
        refine lv_goto (tgt := 54) hx hb dX10_planks_94 (by decide) ?_
        exact ih54 (i + 1) m0_54 m1_54 m2_54 m3_54 m4_54 m5_54 m6_54 m7_54 m8_54 m9_54 hlt hm_m1_54 hm_m2_54 hm_m4_54 hm_m6_54 hv4 hw hpw hRA2 (lt_dec hlt hn54) _ _ hP hD hS ls (lv_sub hl [2, 3, 1, 0] rfl)
  refine lv_iload_n hx hb dX10_planks_0 rfl (lv_at hl 1 rfl) ?_
  refine kS_i (As := [.int x0]) (rest := []) ⟨hx, hb, hml, hown, hts⟩ (c_X10_isSheet l x0) (va_cwS 1 hts gX10_planks_X10_isSheet rfl rfl rfl (by decide +kernel) ⟨Nat.le_of_ble_eq_true rfl, Nat.le_of_ble_eq_true rfl⟩) rfl hl.1 rfl (Nat.le_of_ble_eq_true rfl) dX10_planks_1 ⟨Nat.le_of_ble_eq_true rfl, Nat.le_of_ble_eq_true rfl⟩ ?_
  refine lv_if_ne (tgt := 14) hx hb dX10_planks_4 (by decide) (fun c_18 => ?_) (fun c_18 => ?_)
  · replace c_18 := bI_t c_18
    refine lv_aload_n hx hb dX10_planks_14 rfl (lv_at hl 0 rfl) ?_
    refine va_get (D := D) (ci := 9) (v := .ref (a 8)) (C := RX10) (T := TX10) (N := 30) hx hb hts hi10 hown hK hP 0 rfl rfl 14 (by decide) hw2 (fun _ h9 => h9) rfl dX10_planks_15 ?_
    refine lv_iload_n hx hb dX10_planks_18 rfl (lv_at hl 1 rfl) ?_
    refine va_iald hx hb hK hP 8 0 rfl rfl (within_in4 c_18) dX10_planks_19 ?_
    refine lv_if_ne (tgt := 31) hx hb dX10_planks_20 (by decide) (fun c_19 => ?_) (fun c_19 => ?_)
    · refine lv_aload_n hx hb dX10_planks_31 rfl (lv_at hl 0 rfl) ?_
      refine va_get (D := D) (ci := 9) (v := .ref (a 9)) (C := RX10) (T := TX10) (N := 30) hx hb hts hi10 hown hK hP 0 rfl rfl 15 (by decide) hw0 (fun _ h9 => h9) rfl dX10_planks_32 ?_
      refine lv_iload_n hx hb dX10_planks_35 rfl (lv_at hl 1 rfl) ?_
      refine va_iald hx hb hK hP 9 0 rfl rfl (within_in4 c_18) dX10_planks_36 ?_
      refine lv_bipush (v := 8) hx hb dX10_planks_37 (by decide) ?_
      refine lv_icmp_le (tgt := 49) hx hb dX10_planks_39 (by decide) (fun c_20 => ?_) (fun c_20 => ?_)
      · refine lv_lconst (v := 0) hx hb dX10_planks_49 (by decide) ?_
        refine lv_lstore_n (lv' := [(2, .long 0), (0, .ref (a 0)), (1, .int x0)]) hx hb dX10_planks_50 rfl hl (by decide) rfl (fun ls hl => ?_)
        refine lv_iconst (v := 0) hx hb dX10_planks_51 (by decide) ?_
        refine lv_istore (lv' := [(4, .int 0), (2, .long 0), (0, .ref (a 0)), (1, .int x0)]) hx hb dX10_planks_52 hl (by decide) rfl (fun ls hl => ?_)
        exact lp54 _ 0 (J 0) (I 3) (I 12) (I 13) (R 3) (R 4) (R 5) (RJ 2) (RJ 6) (RJ 7) (Nat.zero_le _) hM.2.1 hM.2.2.1 hM.2.2.2.1 hM.2.2.2.2.1 (within_in4 c_18) c_18 (lw4 c_18 (by rw [← (hSh _ (in_lt (within_in4 c_18))).1]; exact c_19) (by rw [← (hSh _ (in_lt (within_in4 c_18))).2.1]; exact c_20)) hRA (Nat.lt_succ_self _) _ _ hP hD hS ls (lv_sub hl [2, 3, 1, 0] rfl)
      · refine lv_aload_n hx hb dX10_planks_42 rfl (lv_at hl 0 rfl) ?_
        refine lv_ldc (v := (-100003)) hx hb hown hw3 dX10_planks_43 ?_
        refine kM_i (As := [.int (-100003)]) (rest := []) (q0 := 0) ⟨hx, hb, hml, hown, hts⟩ (c_X10_finding l D cy a _ (va_up J 0 (J 0)) (va_up (va_up (va_up I 3 (I 3)) 12 (I 12)) 13 (I 13)) (va_up (va_up (va_up R 3 (R 3)) 4 (R 4)) 5 (R 5)) (va_up (va_up (va_up RJ 2 (RJ 2)) 6 (RJ 6)) 7 (RJ 7)) (-100003) ) (cwV 1 hts gX10_planks_X10_finding rfl rfl rfl (by decide +kernel) ⟨Nat.le_of_ble_eq_true rfl, Nat.le_of_ble_eq_true rfl⟩) hK hN hP hD hS hA rfl rfl rfl hl.1 rfl (Nat.le_of_ble_eq_true rfl) dX10_planks_45 ⟨Nat.le_of_ble_eq_true rfl, Nat.le_of_ble_eq_true rfl⟩ (fun r_21 u H locs hw hP hD hS => ?_)
        obtain ⟨rfl, rfl⟩ := hw
        have hP : va_P D vwCl (MW cy a (va_up J 0 (J 0)) (va_up (va_up (va_up I 3 (I 3)) 12 (I 12)) 13 ((I 13) + 1)) (va_up (va_up (va_up R 3 (R 3)) 4 (R 4)) 5 (R 5)) (va_up (va_up (va_up RJ 2 (RJ 2)) 6 (RJ 6)) 7 (RJ 7))) H := hP
        have hD : va_D A (MW cy a (va_up J 0 (J 0)) (va_up (va_up (va_up I 3 (I 3)) 12 (I 12)) 13 ((I 13) + 1)) (va_up (va_up (va_up R 3 (R 3)) 4 (R 4)) 5 (R 5)) (va_up (va_up (va_up RJ 2 (RJ 2)) 6 (RJ 6)) 7 (RJ 7))) := hD
        exact wret_i hx hb hr hlocks ((va_up J 0 (J 0)), (va_up (va_up (va_up I 3 (I 3)) 12 (I 12)) 13 ((I 13) + 1)), (va_up (va_up (va_up R 3 (R 3)) 4 (R 4)) 5 (R 5)), (va_up (va_up (va_up RJ 2 (RJ 2)) 6 (RJ 6)) 7 (RJ 7))) ⟨(J 0), (I 3), (I 12), ((I 13) + 1), (R 3), (R 4), (R 5), (RJ 2), (RJ 6), (RJ 7), ⟨(pl_out (V := Vs) (S := S) (fl := fl) (P := P) (lw3 c_18 (by rw [← (hSh _ (in_lt (within_in4 c_18))).1]; exact c_19) (by rw [← (hSh _ (in_lt (within_in4 c_18))).2.1]; exact c_20)) (by decide)).1, hM.2.1, hM.2.2.1, hM.2.2.2.1, hM.2.2.2.2.1, (plM_out (lw3 c_18 (by rw [← (hSh _ (in_lt (within_in4 c_18))).1]; exact c_19) (by rw [← (hSh _ (in_lt (within_in4 c_18))).2.1]; exact c_20)) (by decide) hRA)⟩, rfl⟩ hP hD hS dX10_planks_48
    · refine lv_aload_n hx hb dX10_planks_23 rfl (lv_at hl 0 rfl) ?_
      refine lv_ldcw (v := (-100002)) hx hb hown hw4 dX10_planks_24 ?_
      refine kM_i (As := [.int (-100002)]) (rest := []) (q0 := 0) ⟨hx, hb, hml, hown, hts⟩ (c_X10_finding l D cy a _ (va_up J 0 (J 0)) (va_up (va_up (va_up I 3 (I 3)) 12 (I 12)) 13 (I 13)) (va_up (va_up (va_up R 3 (R 3)) 4 (R 4)) 5 (R 5)) (va_up (va_up (va_up RJ 2 (RJ 2)) 6 (RJ 6)) 7 (RJ 7)) (-100002) ) (cwV 1 hts gX10_planks_X10_finding rfl rfl rfl (by decide +kernel) ⟨Nat.le_of_ble_eq_true rfl, Nat.le_of_ble_eq_true rfl⟩) hK hN hP hD hS hA rfl rfl rfl hl.1 rfl (Nat.le_of_ble_eq_true rfl) dX10_planks_27 ⟨Nat.le_of_ble_eq_true rfl, Nat.le_of_ble_eq_true rfl⟩ (fun r_22 u H locs hw hP hD hS => ?_)
      obtain ⟨rfl, rfl⟩ := hw
      have hP : va_P D vwCl (MW cy a (va_up J 0 (J 0)) (va_up (va_up (va_up I 3 (I 3)) 12 (I 12)) 13 ((I 13) + 1)) (va_up (va_up (va_up R 3 (R 3)) 4 (R 4)) 5 (R 5)) (va_up (va_up (va_up RJ 2 (RJ 2)) 6 (RJ 6)) 7 (RJ 7))) H := hP
      have hD : va_D A (MW cy a (va_up J 0 (J 0)) (va_up (va_up (va_up I 3 (I 3)) 12 (I 12)) 13 ((I 13) + 1)) (va_up (va_up (va_up R 3 (R 3)) 4 (R 4)) 5 (R 5)) (va_up (va_up (va_up RJ 2 (RJ 2)) 6 (RJ 6)) 7 (RJ 7))) := hD
      exact wret_i hx hb hr hlocks ((va_up J 0 (J 0)), (va_up (va_up (va_up I 3 (I 3)) 12 (I 12)) 13 ((I 13) + 1)), (va_up (va_up (va_up R 3 (R 3)) 4 (R 4)) 5 (R 5)), (va_up (va_up (va_up RJ 2 (RJ 2)) 6 (RJ 6)) 7 (RJ 7))) ⟨(J 0), (I 3), (I 12), ((I 13) + 1), (R 3), (R 4), (R 5), (RJ 2), (RJ 6), (RJ 7), ⟨(pl_out (V := Vs) (S := S) (fl := fl) (P := P) (lw2 c_18 (by rw [← (hSh _ (in_lt (within_in4 c_18))).1]; exact c_19)) (by decide)).1, hM.2.1, hM.2.2.1, hM.2.2.2.1, hM.2.2.2.2.1, (plM_out (lw2 c_18 (by rw [← (hSh _ (in_lt (within_in4 c_18))).1]; exact c_19)) (by decide) hRA)⟩, rfl⟩ hP hD hS dX10_planks_30
  · replace c_18 := bI_f c_18
    refine lv_aload_n hx hb dX10_planks_7 rfl (lv_at hl 0 rfl) ?_
    refine lv_ldc (v := (-100001)) hx hb hown hw5 dX10_planks_8 ?_
    refine kM_i (As := [.int (-100001)]) (rest := []) (q0 := 0) ⟨hx, hb, hml, hown, hts⟩ (c_X10_finding l D cy a _ (va_up J 0 (J 0)) (va_up (va_up (va_up I 3 (I 3)) 12 (I 12)) 13 (I 13)) (va_up (va_up (va_up R 3 (R 3)) 4 (R 4)) 5 (R 5)) (va_up (va_up (va_up RJ 2 (RJ 2)) 6 (RJ 6)) 7 (RJ 7)) (-100001) ) (cwV 1 hts gX10_planks_X10_finding rfl rfl rfl (by decide +kernel) ⟨Nat.le_of_ble_eq_true rfl, Nat.le_of_ble_eq_true rfl⟩) hK hN hP hD hS hA rfl rfl rfl hl.1 rfl (Nat.le_of_ble_eq_true rfl) dX10_planks_10 ⟨Nat.le_of_ble_eq_true rfl, Nat.le_of_ble_eq_true rfl⟩ (fun r_23 u H locs hw hP hD hS => ?_)
    obtain ⟨rfl, rfl⟩ := hw
    have hP : va_P D vwCl (MW cy a (va_up J 0 (J 0)) (va_up (va_up (va_up I 3 (I 3)) 12 (I 12)) 13 ((I 13) + 1)) (va_up (va_up (va_up R 3 (R 3)) 4 (R 4)) 5 (R 5)) (va_up (va_up (va_up RJ 2 (RJ 2)) 6 (RJ 6)) 7 (RJ 7))) H := hP
    have hD : va_D A (MW cy a (va_up J 0 (J 0)) (va_up (va_up (va_up I 3 (I 3)) 12 (I 12)) 13 ((I 13) + 1)) (va_up (va_up (va_up R 3 (R 3)) 4 (R 4)) 5 (R 5)) (va_up (va_up (va_up RJ 2 (RJ 2)) 6 (RJ 6)) 7 (RJ 7))) := hD
    exact wret_i hx hb hr hlocks ((va_up J 0 (J 0)), (va_up (va_up (va_up I 3 (I 3)) 12 (I 12)) 13 ((I 13) + 1)), (va_up (va_up (va_up R 3 (R 3)) 4 (R 4)) 5 (R 5)), (va_up (va_up (va_up RJ 2 (RJ 2)) 6 (RJ 6)) 7 (RJ 7))) ⟨(J 0), (I 3), (I 12), ((I 13) + 1), (R 3), (R 4), (R 5), (RJ 2), (RJ 6), (RJ 7), ⟨(pl_out (V := Vs) (S := S) (fl := fl) (P := P) (lw1 c_18) (by decide)).1, hM.2.1, hM.2.2.1, hM.2.2.2.1, hM.2.2.2.2.1, (plM_out (lw1 c_18) (by decide) hRA)⟩, rfl⟩ hP hD hS dX10_planks_13
