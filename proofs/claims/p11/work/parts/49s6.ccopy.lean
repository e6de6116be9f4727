theorem dX9_copy_0 : decode cX9_copy 0 = .ok (.aload_n 0, 1) := by decide +kernel
theorem dX9_copy_1 : decode cX9_copy 1 = .ok (.iload_n 1, 1) := by decide +kernel
set_option maxRecDepth 20000 in
theorem ggX9_copy_X9_isSheet : GoodIn wsX9_copy wsX9_isSheet := goodIn_r _ [15, 2, 32, 33, 34, 35, 36, 37, 38, 39, 40, 41, 42] rfl (by decide +kernel)
set_option maxRecDepth 20000 in
theorem gX9_copy_X9_isSheet : GoodIn wsX9_copy (wsV RX9 279 RX9 yX9_isSheet wsX9_isSheet) := goodIn_app (goodIn_r _ [11, 12, 13, 14] rfl (by decide +kernel)) ggX9_copy_X9_isSheet
theorem dX9_copy_2 : decode cX9_copy 2 = .ok (.invokevirtual 279, 3) := by decide +kernel
theorem dX9_copy_5 : decode cX9_copy 5 = .ok (.ifCond .eq 11, 3) := by decide +kernel
theorem dX9_copy_16 : decode cX9_copy 16 = .ok (.aload_n 0, 1) := by decide +kernel
theorem dX9_copy_17 : decode cX9_copy 17 = .ok (.ldc 43, 2) := by decide +kernel
set_option maxRecDepth 20000 in
theorem ggX9_copy_X9_finding : GoodIn wsX9_copy wsX9_finding := goodIn_r _ [19, 20, 32, 33, 34, 35, 36, 37, 38, 39, 40, 41, 42] rfl (by decide +kernel)
set_option maxRecDepth 20000 in
theorem gX9_copy_X9_finding : GoodIn wsX9_copy (wsV RX9 44 RX9 yX9_finding wsX9_finding) := goodIn_app (goodIn_r _ [16, 17, 18, 14] rfl (by decide +kernel)) ggX9_copy_X9_finding
theorem dX9_copy_19 : decode cX9_copy 19 = .ok (.invokevirtual 44, 3) := by decide +kernel
theorem dX9_copy_22 : decode cX9_copy 22 = .ok (.ireturn, 1) := by decide +kernel
theorem dX9_copy_8 : decode cX9_copy 8 = .ok (.aload_n 0, 1) := by decide +kernel
theorem dX9_copy_9 : decode cX9_copy 9 = .ok (.iload_n 3, 1) := by decide +kernel
theorem dX9_copy_10 : decode cX9_copy 10 = .ok (.invokevirtual 279, 3) := by decide +kernel
theorem dX9_copy_13 : decode cX9_copy 13 = .ok (.ifCond .ne 10, 3) := by decide +kernel
theorem dX9_copy_23 : decode cX9_copy 23 = .ok (.aload_n 0, 1) := by decide +kernel
theorem dX9_copy_24 : decode cX9_copy 24 = .ok (.getfield 9, 3) := by decide +kernel
theorem dX9_copy_27 : decode cX9_copy 27 = .ok (.iload_n 1, 1) := by decide +kernel
theorem dX9_copy_28 : decode cX9_copy 28 = .ok (.aaload, 1) := by decide +kernel
theorem dX9_copy_29 : decode cX9_copy 29 = .ok (.astore 6, 2) := by decide +kernel
theorem dX9_copy_31 : decode cX9_copy 31 = .ok (.aload_n 0, 1) := by decide +kernel
theorem dX9_copy_32 : decode cX9_copy 32 = .ok (.getfield 9, 3) := by decide +kernel
theorem dX9_copy_35 : decode cX9_copy 35 = .ok (.iload_n 3, 1) := by decide +kernel
theorem dX9_copy_36 : decode cX9_copy 36 = .ok (.aaload, 1) := by decide +kernel
theorem dX9_copy_37 : decode cX9_copy 37 = .ok (.astore 7, 2) := by decide +kernel
theorem dX9_copy_39 : decode cX9_copy 39 = .ok (.aload 6, 2) := by decide +kernel
set_option maxRecDepth 20000 in
theorem ggX9_copy_X6_isMissing : GoodIn wsX9_copy wsX6_isMissing := goodIn_r _ [25, 26, 43, 44, 45] rfl (by decide +kernel)
set_option maxRecDepth 20000 in
theorem gX9_copy_X6_isMissing : GoodIn wsX9_copy (wsV RX9 289 RX6 yX6_isMissing wsX6_isMissing) := goodIn_app (goodIn_r _ [21, 22, 23, 24] rfl (by decide +kernel)) ggX9_copy_X6_isMissing
theorem dX9_copy_41 : decode cX9_copy 41 = .ok (.invokevirtual 289, 3) := by decide +kernel
theorem dX9_copy_44 : decode cX9_copy 44 = .ok (.ifCond .ne 11, 3) := by decide +kernel
theorem dX9_copy_55 : decode cX9_copy 55 = .ok (.aload_n 0, 1) := by decide +kernel
theorem dX9_copy_56 : decode cX9_copy 56 = .ok (.ldc_w 292, 3) := by decide +kernel
theorem dX9_copy_59 : decode cX9_copy 59 = .ok (.invokevirtual 44, 3) := by decide +kernel
theorem dX9_copy_62 : decode cX9_copy 62 = .ok (.ireturn, 1) := by decide +kernel
theorem dX9_copy_47 : decode cX9_copy 47 = .ok (.aload 7, 2) := by decide +kernel
theorem dX9_copy_49 : decode cX9_copy 49 = .ok (.invokevirtual 289, 3) := by decide +kernel
theorem dX9_copy_52 : decode cX9_copy 52 = .ok (.ifCond .eq 11, 3) := by decide +kernel
theorem dX9_copy_63 : decode cX9_copy 63 = .ok (.aload 6, 2) := by decide +kernel
theorem dX9_copy_65 : decode cX9_copy 65 = .ok (.getfield 299, 3) := by decide +kernel
theorem dX9_copy_68 : decode cX9_copy 68 = .ok (.aload 7, 2) := by decide +kernel
theorem dX9_copy_70 : decode cX9_copy 70 = .ok (.getfield 299, 3) := by decide +kernel
theorem dX9_copy_73 : decode cX9_copy 73 = .ok (.if_icmp .eq 10, 3) := by decide +kernel
theorem dX9_copy_83 : decode cX9_copy 83 = .ok (.aload 6, 2) := by decide +kernel
theorem dX9_copy_85 : decode cX9_copy 85 = .ok (.iload_n 2, 1) := by decide +kernel
theorem dX9_copy_86 : decode cX9_copy 86 = .ok (.iload 5, 2) := by decide +kernel
set_option maxRecDepth 20000 in
theorem ggX9_copy_X6_hasRange : GoodIn wsX9_copy wsX6_hasRange := goodIn_r _ [30, 31, 43, 44, 45] rfl (by decide +kernel)
set_option maxRecDepth 20000 in
theorem gX9_copy_X6_hasRange : GoodIn wsX9_copy (wsV RX9 293 RX6 yX6_hasRange wsX6_hasRange) := goodIn_app (goodIn_r _ [27, 28, 29, 24] rfl (by decide +kernel)) ggX9_copy_X6_hasRange
theorem dX9_copy_88 : decode cX9_copy 88 = .ok (.invokevirtual 293, 3) := by decide +kernel
theorem dX9_copy_91 : decode cX9_copy 91 = .ok (.ifCond .eq 15, 3) := by decide +kernel
theorem dX9_copy_106 : decode cX9_copy 106 = .ok (.aload_n 0, 1) := by decide +kernel
theorem dX9_copy_107 : decode cX9_copy 107 = .ok (.ldc 43, 2) := by decide +kernel
theorem dX9_copy_109 : decode cX9_copy 109 = .ok (.invokevirtual 44, 3) := by decide +kernel
theorem dX9_copy_112 : decode cX9_copy 112 = .ok (.ireturn, 1) := by decide +kernel
theorem dX9_copy_94 : decode cX9_copy 94 = .ok (.aload 7, 2) := by decide +kernel
theorem dX9_copy_96 : decode cX9_copy 96 = .ok (.iload 4, 2) := by decide +kernel
theorem dX9_copy_98 : decode cX9_copy 98 = .ok (.iload 5, 2) := by decide +kernel
theorem dX9_copy_100 : decode cX9_copy 100 = .ok (.invokevirtual 293, 3) := by decide +kernel
theorem dX9_copy_103 : decode cX9_copy 103 = .ok (.ifCond .ne 10, 3) := by decide +kernel
theorem dX9_copy_113 : decode cX9_copy 113 = .ok (.aload 6, 2) := by decide +kernel
theorem dX9_copy_115 : decode cX9_copy 115 = .ok (.getfield 302, 3) := by decide +kernel
theorem dX9_copy_118 : decode cX9_copy 118 = .ok (.iload_n 2, 1) := by decide +kernel
theorem dX9_copy_119 : decode cX9_copy 119 = .ok (.aload 7, 2) := by decide +kernel
theorem dX9_copy_121 : decode cX9_copy 121 = .ok (.getfield 302, 3) := by decide +kernel
theorem dX9_copy_124 : decode cX9_copy 124 = .ok (.iload 4, 2) := by decide +kernel
theorem dX9_copy_126 : decode cX9_copy 126 = .ok (.iload 5, 2) := by decide +kernel
theorem dX9_copy_128 : decode cX9_copy 128 = .ok (.invokestatic 305, 3) := by decide +kernel
theorem dX9_copy_131 : decode cX9_copy 131 = .ok (.iload 5, 2) := by decide +kernel
theorem dX9_copy_133 : decode cX9_copy 133 = .ok (.ireturn, 1) := by decide +kernel
theorem dX9_copy_76 : decode cX9_copy 76 = .ok (.aload_n 0, 1) := by decide +kernel
theorem dX9_copy_77 : decode cX9_copy 77 = .ok (.ldc 128, 2) := by decide +kernel
theorem dX9_copy_79 : decode cX9_copy 79 = .ok (.invokevirtual 44, 3) := by decide +kernel
theorem dX9_copy_82 : decode cX9_copy 82 = .ok (.ireturn, 1) := by decide +kernel
set_option maxRecDepth 20000 in
theorem ihX9_copy_6 : ∀ w ∈ u_ws RX6 TX6 3, w ∈ wsX9_copy := fun _ h => List.mem_cons_of_mem _ (List.mem_append_right _ h)
set_option maxRecDepth 20000 in
theorem ihX9_copy_9 : ∀ w ∈ u_ws RX9 TX9 11, w ∈ wsX9_copy := fun _ h => List.mem_cons_of_mem _ (List.mem_append_left _ (List.mem_append_right _ h))
set_option maxHeartbeats 4000000 in
set_option maxRecDepth 100000 in
theorem x_X9_copy (l : Launch) (D : va_G) (cy : Nat → ClassId) (a : Nat → Nat) (sz : Nat) (J : Nat → Int64) (I : Nat → Int32) (O : Nat → Option Nat) (R : Nat → Nat → Int32) (RO : Nat → Nat → Option Nat) (LL : va_W) (Y : va_W) (x0 : Int32) (x1 : Int32) (x2 : Int32) (x3 : Int32) (x4 : Int32) (Bs : Nat → Int32) (Zs : Nat → Int32) (Vs : Nat → Nat → Int32) (hSh : RCs (I 385) (I 386) (R 13) (I 449) (I 450) (R 15) (I 513) (I 514) (R 17) (I 577) (I 578) (R 19) Bs Zs Vs) (hM : CI a Y I O RO) : Met l yX9_copy wsX9_copy ({ frames := 1, cells := 0, slots := 0, locals := 79 }) (va_Pc [.ref (a 0), .int x0, .int x1, .int x2, .int x3, .int x4] (PW D cy sz (CT cy a J I O R RO (LL ++ Y)))) (va_Qi (fun r (u : TS) => ∃ (w0 : Int32), ∃ (w1 : Nat → Int32), ∃ (w2 : Nat → Int32), ∃ (w3 : Nat → Int32), ∃ (w4 : Nat → Int32), (r = (aCpA Bs Zs x0 x1 x2 x3 x4) ∧ (RCs (I 385) (I 386) w1 (I 449) (I 450) w2 (I 513) (I 514) w3 (I 577) (I 578) w4 Bs Zs (aCpV Bs Zs Vs x0 x1 x2 x3 x4))) ∧ u = (J, (va_up I 10 w0), O, (va_up (va_up (va_up (va_up R 13 w1) 15 w2) 17 w3) 19 w4), RO, LL, Y)) (BW D (va_A (CT cy a J I O R RO (LL ++ Y)) sz) (CTu cy a)) (va_A (CT cy a J I O R RO (LL ++ Y)) sz)) 0 0 (va_A (CT cy a J I O R RO (LL ++ Y)) sz) := by
  refine Met.ofW (cc := cX9_copy) (maxL := 8) (ret := (some .int)) (by decide) rfl ?_
  intro p e s m args below meth c s₁ B hml hv
  obtain ⟨rfl, rfl, hP, hK, hN, hD0⟩ := hv
  have hx := B.exec
  have hb := B.bytes
  have hr := B.returns
  have hts := atoms_spec (ws := wsX9_copy) B.pre
  have hown : s.vm.findClass RX9 = some m.cls := findClass_of_methodNamed B.named
  have hlocks := B.notSynchronized
  have hw0 := hts (.constant RX9 43 (-100001)) (by decide +kernel)
  have hw1 := hts (.fieldLink RX9 9 "ParquetLayer" "sheets" "[LParquetLayer$Sheet;") (by decide +kernel)
  have hw2 := hts (.constant RX9 292 (-100002)) (by decide +kernel)
  have hw3 := hts (.fieldLink RX9 299 "ParquetLayer$Sheet" "bits" "I") (by decide +kernel)
  have hw4 := hts (.fieldLink RX9 302 "ParquetLayer$Sheet" "numbers" "[I") (by decide +kernel)
  have hw5 := hts (.methodLink RX9 305 arraycopyName) (by decide +kernel)
  have hw6 := hts (.native arraycopyName) (by decide +kernel)
  have hw7 := hts (.static arraycopyName) (by decide +kernel)
  have hw8 := hts (.initialized "java/lang/System") (by decide +kernel)
  have hw9 := hts (.constant RX9 128 (-100004)) (by decide +kernel)
  have hi6 := ihX9_copy_6
  have hi9 := ihX9_copy_9
  have hD := hD0.self (sz := s.heap.size)
  generalize hAe : va_A (CT cy a J I O R RO (LL ++ Y)) s.heap.size = A at hD ⊢
  have hA : ∀ q : Nat, s.heap.size ≤ q → A q := fun q h => by rw [← hAe]; exact Or.inr h
  have hS : va_S A s.heap s.heap [] := va_S.rf
  have hl := lv_entry ([.ref (a 0), .int x0, .int x1, .int x2, .int x3, .int x4]) (n := 8) (Nat.le_of_ble_eq_true rfl)
  rw [lg_entry_eq]
  generalize (lg_sl ([.ref (a 0), .int x0, .int x1, .int x2, .int x3, .int x4]) ++ List.replicate (8 - (lg_sl ([.ref (a 0), .int x0, .int x1, .int x2, .int x3, .int x4])).length) Slot.unset).toArray = ls at hl ⊢
  have hl : lv_has ls 8 [(0, .ref (a 0)), (1, .int x0), (2, .int x1), (3, .int x2), (4, .int x3), (5, .int x4)] := hl
  have hRO0 := hM.2.2.2.2.2.2.2.2.1
  have hRO1 := hM.2.2.2.2.2.2.2.2.2.1
  have hRO2 := hM.2.2.2.2.2.2.2.2.2.2.1
  have hRO3 := hM.2.2.2.2.2.2.2.2.2.2.2
  have hP : va_P D vwCl (CT cy a J (va_up I 10 (I 10)) O (va_up (va_up (va_up (va_up R 13 (R 13)) 15 (R 15)) 17 (R 17)) 19 (R 19)) RO (LL ++ Y)) s.heap := hP
  have hD : va_D A (CT cy a J (va_up I 10 (I 10)) O (va_up (va_up (va_up (va_up R 13 (R 13)) 15 (R 15)) 17 (R 17)) 19 (R 19)) RO (LL ++ Y)) := hD
  refine lv_aload_n hx hb dX9_copy_0 rfl (lv_at hl 0 rfl) ?_
  refine lv_iload_n hx hb dX9_copy_1 rfl (lv_at hl 1 rfl) ?_
  refine kR_i (As := [.int x0]) (rest := []) (q0 := 0) ⟨hx, hb, hml, hown, hts⟩ (t_X9_isSheet l D cy a _ J (va_up I 10 (I 10)) O (va_up (va_up (va_up (va_up R 13 (R 13)) 15 (R 15)) 17 (R 17)) 19 (R 19)) RO LL Y x0  ) (cwV 1 hts gX9_copy_X9_isSheet rfl rfl rfl (by decide +kernel) ⟨Nat.le_of_ble_eq_true rfl, Nat.le_of_ble_eq_true rfl⟩) hK hN hP hD rfl rfl rfl hl.1 rfl (Nat.le_of_ble_eq_true rfl) dX9_copy_2 ⟨Nat.le_of_ble_eq_true rfl, Nat.le_of_ble_eq_true rfl⟩ ?_
  refine lv_if_eq (tgt := 16) hx hb dX9_copy_5 (by decide) (fun c_1 => ?_) (fun c_1 => ?_)
  · replace c_1 := bI_f c_1
    refine lv_aload_n hx hb dX9_copy_16 rfl (lv_at hl 0 rfl) ?_
    refine lv_ldc (v := (-100001)) hx hb hown hw0 dX9_copy_17 ?_
    refine kM_i (As := [.int (-100001)]) (rest := []) (q0 := 0) ⟨hx, hb, hml, hown, hts⟩ (t_X9_finding l D cy a _ J (va_up I 10 (I 10)) O (va_up (va_up (va_up (va_up R 13 (R 13)) 15 (R 15)) 17 (R 17)) 19 (R 19)) RO LL Y ((-100001) : Int32)   ) (cwV 1 hts gX9_copy_X9_finding rfl rfl rfl (by decide +kernel) ⟨Nat.le_of_ble_eq_true rfl, Nat.le_of_ble_eq_true rfl⟩) hK hN hP hD hS hA rfl rfl rfl hl.1 rfl (Nat.le_of_ble_eq_true rfl) dX9_copy_19 ⟨Nat.le_of_ble_eq_true rfl, Nat.le_of_ble_eq_true rfl⟩ (fun r_2 u H locs hw hP hD hS => ?_)
    obtain ⟨w_3, rfl, rfl⟩ := hw
    have hP : va_P D vwCl (CT cy a J (va_up I 10 w_3) O (va_up (va_up (va_up (va_up R 13 (R 13)) 15 (R 15)) 17 (R 17)) 19 (R 19)) RO (LL ++ Y)) H := hP
    have hD : va_D A (CT cy a J (va_up I 10 w_3) O (va_up (va_up (va_up (va_up R 13 (R 13)) 15 (R 15)) 17 (R 17)) 19 (R 19)) RO (LL ++ Y)) := hD
    exact wret_i hx hb hr hlocks (J, (va_up I 10 w_3), O, (va_up (va_up (va_up (va_up R 13 (R 13)) 15 (R 15)) 17 (R 17)) 19 (R 19)), RO, LL, Y) ⟨w_3, (R 13), (R 15), (R 17), (R 19), ⟨(cp_no (V := Vs) (cw1 (by rw [c_1]; rfl)) (by decide)).1, (by rw [(cp_no (cw1 (by rw [c_1]; rfl)) (by decide)).2]; exact hSh)⟩, rfl⟩ hP hD hS dX9_copy_22
  · replace c_1 := bI_t c_1
    refine lv_aload_n hx hb dX9_copy_8 rfl (lv_at hl 0 rfl) ?_
    refine lv_iload_n hx hb dX9_copy_9 rfl (lv_at hl 3 rfl) ?_
    refine kR_i (As := [.int x2]) (rest := []) (q0 := 0) ⟨hx, hb, hml, hown, hts⟩ (t_X9_isSheet l D cy a _ J (va_up I 10 (I 10)) O (va_up (va_up (va_up (va_up R 13 (R 13)) 15 (R 15)) 17 (R 17)) 19 (R 19)) RO LL Y x2  ) (cwV 1 hts gX9_copy_X9_isSheet rfl rfl rfl (by decide +kernel) ⟨Nat.le_of_ble_eq_true rfl, Nat.le_of_ble_eq_true rfl⟩) hK hN hP hD rfl rfl rfl hl.1 rfl (Nat.le_of_ble_eq_true rfl) dX9_copy_10 ⟨Nat.le_of_ble_eq_true rfl, Nat.le_of_ble_eq_true rfl⟩ ?_
    refine lv_if_ne (tgt := 23) hx hb dX9_copy_13 (by decide) (fun c_4 => ?_) (fun c_4 => ?_)
    · replace c_4 := bI_t c_4
      refine lv_aload_n hx hb dX9_copy_23 rfl (lv_at hl 0 rfl) ?_
      refine va_get (D := D) (ci := 8) (v := .ref (a 1)) (C := RX9) (T := TX9) (N := 11) hx hb hts hi9 hown hK hP 0 rfl rfl 0 (by decide) hw1 (fun _ h9 => h9) rfl dX9_copy_24 ?_
      refine lv_iload_n hx hb dX9_copy_27 rfl (lv_at hl 1 rfl) ?_
      refine va_aldq hx hb hK hP 1 4 rfl rfl (within_in4 c_1) dX9_copy_28 ?_
      rcases in4 (within_in4 c_1) with hj_5 | hj_5 | hj_5 | hj_5
      · refine wtop_v (y := .ref (a 12)) (by rw [hj_5]; exact congrArg va_rf hRO0) ?_
        refine lv_astore (lv' := [(6, .ref (a 12)), (0, .ref (a 0)), (1, .int x0), (2, .int x1), (3, .int x2), (4, .int x3), (5, .int x4)]) hx hb dX9_copy_29 hl (by decide) rfl (fun ls hl => ?_)
        refine lv_aload_n hx hb dX9_copy_31 rfl (lv_at hl 1 rfl) ?_
        refine va_get (D := D) (ci := 8) (v := .ref (a 1)) (C := RX9) (T := TX9) (N := 11) hx hb hts hi9 hown hK hP 0 rfl rfl 0 (by decide) hw1 (fun _ h9 => h9) rfl dX9_copy_32 ?_
        refine lv_iload_n hx hb dX9_copy_35 rfl (lv_at hl 4 rfl) ?_
        refine va_aldq hx hb hK hP 1 4 rfl rfl (within_in4 c_4) dX9_copy_36 ?_
        rcases in4 (within_in4 c_4) with hj_6 | hj_6 | hj_6 | hj_6
        · refine wtop_v (y := .ref (a 12)) (by rw [hj_6]; exact congrArg va_rf hRO0) ?_
          refine lv_astore (lv' := [(7, .ref (a 12)), (6, .ref (a 12)), (0, .ref (a 0)), (1, .int x0), (2, .int x1), (3, .int x2), (4, .int x3), (5, .int x4)]) hx hb dX9_copy_37 hl (by decide) rfl (fun ls hl => ?_)
          refine lv_aload hx hb dX9_copy_39 (lv_at hl 1 rfl) ?_
          refine kR_i (As := []) (rest := []) (q0 := 12) ⟨hx, hb, hml, hown, hts⟩ (x_X6_isMissing12 l D cy a _ J (va_up I 10 (I 10)) O (va_up (va_up (va_up (va_up R 13 (R 13)) 15 (R 15)) 17 (R 17)) 19 (R 19)) RO LL Y   ) (cwV 0 hts gX9_copy_X6_isMissing rfl rfl rfl (by decide +kernel) ⟨Nat.le_of_ble_eq_true rfl, Nat.le_of_ble_eq_true rfl⟩) hK hN hP hD rfl rfl rfl hl.1 rfl (Nat.le_of_ble_eq_true rfl) dX9_copy_41 ⟨Nat.le_of_ble_eq_true rfl, Nat.le_of_ble_eq_true rfl⟩ ?_
          refine lv_if_ne (tgt := 55) hx hb dX9_copy_44 (by decide) (fun c_7 => ?_) (fun c_7 => ?_)
          · replace c_7 := bI_t c_7
            refine lv_aload_n hx hb dX9_copy_55 rfl (lv_at hl 2 rfl) ?_
            refine lv_ldcw (v := (-100002)) hx hb hown hw2 dX9_copy_56 ?_
            refine kM_i (As := [.int (-100002)]) (rest := []) (q0 := 0) ⟨hx, hb, hml, hown, hts⟩ (t_X9_finding l D cy a _ J (va_up I 10 (I 10)) O (va_up (va_up (va_up (va_up R 13 (R 13)) 15 (R 15)) 17 (R 17)) 19 (R 19)) RO LL Y ((-100002) : Int32)   ) (cwV 1 hts gX9_copy_X9_finding rfl rfl rfl (by decide +kernel) ⟨Nat.le_of_ble_eq_true rfl, Nat.le_of_ble_eq_true rfl⟩) hK hN hP hD hS hA rfl rfl rfl hl.1 rfl (Nat.le_of_ble_eq_true rfl) dX9_copy_59 ⟨Nat.le_of_ble_eq_true rfl, Nat.le_of_ble_eq_true rfl⟩ (fun r_8 u H locs hw hP hD hS => ?_)
            obtain ⟨w_9, rfl, rfl⟩ := hw
            have hP : va_P D vwCl (CT cy a J (va_up I 10 w_9) O (va_up (va_up (va_up (va_up R 13 (R 13)) 15 (R 15)) 17 (R 17)) 19 (R 19)) RO (LL ++ Y)) H := hP
            have hD : va_D A (CT cy a J (va_up I 10 w_9) O (va_up (va_up (va_up (va_up R 13 (R 13)) 15 (R 15)) 17 (R 17)) 19 (R 19)) RO (LL ++ Y)) := hD
            exact wret_i hx hb hr hlocks (J, (va_up I 10 w_9), O, (va_up (va_up (va_up (va_up R 13 (R 13)) 15 (R 15)) 17 (R 17)) 19 (R 19)), RO, LL, Y) ⟨w_9, (R 13), (R 15), (R 17), (R 19), ⟨(cp_no (V := Vs) (cw2 c_1 c_4 (Or.inl (eb0 (by rw [hj_5]; rfl) hSh.1 c_7))) (by decide)).1, (by rw [(cp_no (cw2 c_1 c_4 (Or.inl (eb0 (by rw [hj_5]; rfl) hSh.1 c_7))) (by decide)).2]; exact hSh)⟩, rfl⟩ hP hD hS dX9_copy_62
          · replace c_7 := bI_f c_7
            refine lv_aload hx hb dX9_copy_47 (lv_at hl 0 rfl) ?_
            refine kR_i (As := []) (rest := []) (q0 := 12) ⟨hx, hb, hml, hown, hts⟩ (x_X6_isMissing12 l D cy a _ J (va_up I 10 (I 10)) O (va_up (va_up (va_up (va_up R 13 (R 13)) 15 (R 15)) 17 (R 17)) 19 (R 19)) RO LL Y   ) (cwV 0 hts gX9_copy_X6_isMissing rfl rfl rfl (by decide +kernel) ⟨Nat.le_of_ble_eq_true rfl, Nat.le_of_ble_eq_true rfl⟩) hK hN hP hD rfl rfl rfl hl.1 rfl (Nat.le_of_ble_eq_true rfl) dX9_copy_49 ⟨Nat.le_of_ble_eq_true rfl, Nat.le_of_ble_eq_true rfl⟩ ?_
            refine lv_if_eq (tgt := 63) hx hb dX9_copy_52 (by decide) (fun c_10 => ?_) (fun c_10 => ?_)
            · replace c_10 := bI_f c_10
              refine lv_aload hx hb dX9_copy_63 (lv_at hl 1 rfl) ?_
              refine va_get (D := D) (ci := 5) (v := .int (I 385)) (C := RX6) (T := TX6) (N := 3) hx hb hts hi6 hown hK hP 12 rfl rfl 1 (by decide) hw3 (fun _ h9 => h9) rfl dX9_copy_65 ?_
              refine lv_aload hx hb dX9_copy_68 (lv_at hl 0 rfl) ?_
              refine va_get (D := D) (ci := 5) (v := .int (I 385)) (C := RX6) (T := TX6) (N := 3) hx hb hts hi6 hown hK hP 12 rfl rfl 1 (by decide) hw3 (fun _ h9 => h9) rfl dX9_copy_70 ?_
              refine lv_icmp_eq (tgt := 83) hx hb dX9_copy_73 (by decide) (fun c_11 => ?_) (fun c_11 => ?_)
              · refine lv_aload hx hb dX9_copy_83 (lv_at hl 1 rfl) ?_
                refine lv_iload_n hx hb dX9_copy_85 rfl (lv_at hl 4 rfl) ?_
                refine lv_iload hx hb dX9_copy_86 (lv_at hl 7 rfl) ?_
                refine kR_i (As := [.int x1, .int x4]) (rest := []) (q0 := 12) ⟨hx, hb, hml, hown, hts⟩ (x_X6_hasRange12 l D cy a _ J (va_up I 10 (I 10)) O (va_up (va_up (va_up (va_up R 13 (R 13)) 15 (R 15)) 17 (R 17)) 19 (R 19)) RO LL Y x1 x4  ) (cwV 2 hts gX9_copy_X6_hasRange rfl rfl rfl (by decide +kernel) ⟨Nat.le_of_ble_eq_true rfl, Nat.le_of_ble_eq_true rfl⟩) hK hN hP hD rfl rfl rfl hl.1 rfl (Nat.le_of_ble_eq_true rfl) dX9_copy_88 ⟨Nat.le_of_ble_eq_true rfl, Nat.le_of_ble_eq_true rfl⟩ ?_
                refine lv_if_eq (tgt := 106) hx hb dX9_copy_91 (by decide) (fun c_12 => ?_) (fun c_12 => ?_)
                · replace c_12 := bI_f c_12
                  refine lv_aload_n hx hb dX9_copy_106 rfl (lv_at hl 2 rfl) ?_
                  refine lv_ldc (v := (-100001)) hx hb hown hw0 dX9_copy_107 ?_
                  refine kM_i (As := [.int (-100001)]) (rest := []) (q0 := 0) ⟨hx, hb, hml, hown, hts⟩ (t_X9_finding l D cy a _ J (va_up I 10 (I 10)) O (va_up (va_up (va_up (va_up R 13 (R 13)) 15 (R 15)) 17 (R 17)) 19 (R 19)) RO LL Y ((-100001) : Int32)   ) (cwV 1 hts gX9_copy_X9_finding rfl rfl rfl (by decide +kernel) ⟨Nat.le_of_ble_eq_true rfl, Nat.le_of_ble_eq_true rfl⟩) hK hN hP hD hS hA rfl rfl rfl hl.1 rfl (Nat.le_of_ble_eq_true rfl) dX9_copy_109 ⟨Nat.le_of_ble_eq_true rfl, Nat.le_of_ble_eq_true rfl⟩ (fun r_13 u H locs hw hP hD hS => ?_)
                  obtain ⟨w_14, rfl, rfl⟩ := hw
                  have hP : va_P D vwCl (CT cy a J (va_up I 10 w_14) O (va_up (va_up (va_up (va_up R 13 (R 13)) 15 (R 15)) 17 (R 17)) 19 (R 19)) RO (LL ++ Y)) H := hP
                  have hD : va_D A (CT cy a J (va_up I 10 w_14) O (va_up (va_up (va_up (va_up R 13 (R 13)) 15 (R 15)) 17 (R 17)) 19 (R 19)) RO (LL ++ Y)) := hD
                  exact wret_i hx hb hr hlocks (J, (va_up I 10 w_14), O, (va_up (va_up (va_up (va_up R 13 (R 13)) 15 (R 15)) 17 (R 17)) 19 (R 19)), RO, LL, Y) ⟨w_14, (R 13), (R 15), (R 17), (R 19), ⟨(cp_no (V := Vs) (cw4 c_1 c_4 (nb0 (by rw [hj_5]; rfl) hSh.1 c_7) (nb0 (by rw [hj_6]; rfl) hSh.1 c_10) (by rw [bq (by rw [hj_5]; rfl) hSh.1, bq (by rw [hj_6]; rfl) hSh.1]) (ck_f1 (by rw [hj_5]; rfl) hSh.1 c_12)) (by decide)).1, (by rw [(cp_no (cw4 c_1 c_4 (nb0 (by rw [hj_5]; rfl) hSh.1 c_7) (nb0 (by rw [hj_6]; rfl) hSh.1 c_10) (by rw [bq (by rw [hj_5]; rfl) hSh.1, bq (by rw [hj_6]; rfl) hSh.1]) (ck_f1 (by rw [hj_5]; rfl) hSh.1 c_12)) (by decide)).2]; exact hSh)⟩, rfl⟩ hP hD hS dX9_copy_112
                · replace c_12 := bI_t c_12
                  refine lv_aload hx hb dX9_copy_94 (lv_at hl 0 rfl) ?_
                  refine lv_iload hx hb dX9_copy_96 (lv_at hl 6 rfl) ?_
                  refine lv_iload hx hb dX9_copy_98 (lv_at hl 7 rfl) ?_
                  refine kR_i (As := [.int x3, .int x4]) (rest := []) (q0 := 12) ⟨hx, hb, hml, hown, hts⟩ (x_X6_hasRange12 l D cy a _ J (va_up I 10 (I 10)) O (va_up (va_up (va_up (va_up R 13 (R 13)) 15 (R 15)) 17 (R 17)) 19 (R 19)) RO LL Y x3 x4  ) (cwV 2 hts gX9_copy_X6_hasRange rfl rfl rfl (by decide +kernel) ⟨Nat.le_of_ble_eq_true rfl, Nat.le_of_ble_eq_true rfl⟩) hK hN hP hD rfl rfl rfl hl.1 rfl (Nat.le_of_ble_eq_true rfl) dX9_copy_100 ⟨Nat.le_of_ble_eq_true rfl, Nat.le_of_ble_eq_true rfl⟩ ?_
                  refine lv_if_ne (tgt := 113) hx hb dX9_copy_103 (by decide) (fun c_15 => ?_) (fun c_15 => ?_)
                  · replace c_15 := bI_t c_15
                    refine lv_aload hx hb dX9_copy_113 (lv_at hl 1 rfl) ?_
                    refine va_get (D := D) (ci := 5) (v := .ref (a 13)) (C := RX6) (T := TX6) (N := 3) hx hb hts hi6 hown hK hP 12 rfl rfl 0 (by decide) hw4 (fun _ h9 => h9) rfl dX9_copy_115 ?_
                    refine lv_iload_n hx hb dX9_copy_118 rfl (lv_at hl 4 rfl) ?_
                    refine lv_aload hx hb dX9_copy_119 (lv_at hl 0 rfl) ?_
                    refine va_get (D := D) (ci := 5) (v := .ref (a 13)) (C := RX6) (T := TX6) (N := 3) hx hb hts hi6 hown hK hP 12 rfl rfl 0 (by decide) hw4 (fun _ h9 => h9) rfl dX9_copy_121 ?_
                    refine lv_iload hx hb dX9_copy_124 (lv_at hl 6 rfl) ?_
                    refine lv_iload hx hb dX9_copy_126 (lv_at hl 7 rfl) ?_
                    refine va_copyi hx hb (by rw [hml]; exact hl.1.symm) hown hw5 hw6 hw7 hw8 hK hP hD hS 13 13 0 0 rfl rfl rfl rfl rfl (rng_hr hSh.1 c_12).1 (rng_hr hSh.1 c_15).1 (rng_hr hSh.1 c_12).2.1 (rng_hr hSh.1 c_12).2.2 (rng_hr hSh.1 c_15).2.2 (fun _ _ => rfl) (Nat.le_of_ble_eq_true rfl) (Nat.le_of_ble_eq_true rfl) dX9_copy_128 (fun H locs hP hD hS => ?_)
                    have hP : va_P D vwCl (CT cy a J (va_up I 10 (I 10)) O (va_up (va_up (va_up (va_up R 13 (va_cpy (R 13) (R 13) x1.toNatClampNeg x3.toNatClampNeg x4.toNatClampNeg)) 15 (R 15)) 17 (R 17)) 19 (R 19)) RO (LL ++ Y)) H := hP
                    have hD : va_D A (CT cy a J (va_up I 10 (I 10)) O (va_up (va_up (va_up (va_up R 13 (va_cpy (R 13) (R 13) x1.toNatClampNeg x3.toNatClampNeg x4.toNatClampNeg)) 15 (R 15)) 17 (R 17)) 19 (R 19)) RO (LL ++ Y)) := hD
                    refine lv_iload hx hb dX9_copy_131 (lv_at hl 7 rfl) ?_
                    exact wret_i hx hb hr hlocks (J, (va_up I 10 (I 10)), O, (va_up (va_up (va_up (va_up R 13 (va_cpy (R 13) (R 13) x1.toNatClampNeg x3.toNatClampNeg x4.toNatClampNeg)) 15 (R 15)) 17 (R 17)) 19 (R 19)), RO, LL, Y) ⟨(I 10), (va_cpy (R 13) (R 13) x1.toNatClampNeg x3.toNatClampNeg x4.toNatClampNeg), (R 15), (R 17), (R 19), ⟨(cp_yes (V := Vs) (cw5 c_1 c_4 (nb0 (by rw [hj_5]; rfl) hSh.1 c_7) (nb0 (by rw [hj_6]; rfl) hSh.1 c_10) (by rw [bq (by rw [hj_5]; rfl) hSh.1, bq (by rw [hj_6]; rfl) hSh.1]) (ck_t (by rw [hj_5]; rfl) hSh.1 (by rw [hj_6]; rfl) hSh.1 c_12 c_15))).1, (by rw [(cp_yes (cw5 c_1 c_4 (nb0 (by rw [hj_5]; rfl) hSh.1 c_7) (nb0 (by rw [hj_6]; rfl) hSh.1 c_10) (by rw [bq (by rw [hj_5]; rfl) hSh.1, bq (by rw [hj_6]; rfl) hSh.1]) (ck_t (by rw [hj_5]; rfl) hSh.1 (by rw [hj_6]; rfl) hSh.1 c_12 c_15))).2]; exact RCs_v0 (by rw [hj_6]; rfl) hSh (ck_v (by rw [hj_5]; rfl) hSh.1 (by rw [hj_6]; rfl) hSh.1 c_12 c_15))⟩, rfl⟩ hP hD hS dX9_copy_133
                  · replace c_15 := bI_f c_15
                    refine lv_aload_n hx hb dX9_copy_106 rfl (lv_at hl 2 rfl) ?_
                    refine lv_ldc (v := (-100001)) hx hb hown hw0 dX9_copy_107 ?_
                    refine kM_i (As := [.int (-100001)]) (rest := []) (q0 := 0) ⟨hx, hb, hml, hown, hts⟩ (t_X9_finding l D cy a _ J (va_up I 10 (I 10)) O (va_up (va_up (va_up (va_up R 13 (R 13)) 15 (R 15)) 17 (R 17)) 19 (R 19)) RO LL Y ((-100001) : Int32)   ) (cwV 1 hts gX9_copy_X9_finding rfl rfl rfl (by decide +kernel) ⟨Nat.le_of_ble_eq_true rfl, Nat.le_of_ble_eq_true rfl⟩) hK hN hP hD hS hA rfl rfl rfl hl.1 rfl (Nat.le_of_ble_eq_true rfl) dX9_copy_109 ⟨Nat.le_of_ble_eq_true rfl, Nat.le_of_ble_eq_true rfl⟩ (fun r_16 u H locs hw hP hD hS => ?_)
                    obtain ⟨w_17, rfl, rfl⟩ := hw
                    have hP : va_P D vwCl (CT cy a J (va_up I 10 w_17) O (va_up (va_up (va_up (va_up R 13 (R 13)) 15 (R 15)) 17 (R 17)) 19 (R 19)) RO (LL ++ Y)) H := hP
                    have hD : va_D A (CT cy a J (va_up I 10 w_17) O (va_up (va_up (va_up (va_up R 13 (R 13)) 15 (R 15)) 17 (R 17)) 19 (R 19)) RO (LL ++ Y)) := hD
                    exact wret_i hx hb hr hlocks (J, (va_up I 10 w_17), O, (va_up (va_up (va_up (va_up R 13 (R 13)) 15 (R 15)) 17 (R 17)) 19 (R 19)), RO, LL, Y) ⟨w_17, (R 13), (R 15), (R 17), (R 19), ⟨(cp_no (V := Vs) (cw4 c_1 c_4 (nb0 (by rw [hj_5]; rfl) hSh.1 c_7) (nb0 (by rw [hj_6]; rfl) hSh.1 c_10) (by rw [bq (by rw [hj_5]; rfl) hSh.1, bq (by rw [hj_6]; rfl) hSh.1]) (ck_f2 (by rw [hj_6]; rfl) hSh.1 c_15)) (by decide)).1, (by rw [(cp_no (cw4 c_1 c_4 (nb0 (by rw [hj_5]; rfl) hSh.1 c_7) (nb0 (by rw [hj_6]; rfl) hSh.1 c_10) (by rw [bq (by rw [hj_5]; rfl) hSh.1, bq (by rw [hj_6]; rfl) hSh.1]) (ck_f2 (by rw [hj_6]; rfl) hSh.1 c_15)) (by decide)).2]; exact hSh)⟩, rfl⟩ hP hD hS dX9_copy_112
              · refine lv_aload_n hx hb dX9_copy_76 rfl (lv_at hl 2 rfl) ?_
                refine lv_ldc (v := (-100004)) hx hb hown hw9 dX9_copy_77 ?_
                refine kM_i (As := [.int (-100004)]) (rest := []) (q0 := 0) ⟨hx, hb, hml, hown, hts⟩ (t_X9_finding l D cy a _ J (va_up I 10 (I 10)) O (va_up (va_up (va_up (va_up R 13 (R 13)) 15 (R 15)) 17 (R 17)) 19 (R 19)) RO LL Y ((-100004) : Int32)   ) (cwV 1 hts gX9_copy_X9_finding rfl rfl rfl (by decide +kernel) ⟨Nat.le_of_ble_eq_true rfl, Nat.le_of_ble_eq_true rfl⟩) hK hN hP hD hS hA rfl rfl rfl hl.1 rfl (Nat.le_of_ble_eq_true rfl) dX9_copy_79 ⟨Nat.le_of_ble_eq_true rfl, Nat.le_of_ble_eq_true rfl⟩ (fun r_18 u H locs hw hP hD hS => ?_)
                obtain ⟨w_19, rfl, rfl⟩ := hw
                have hP : va_P D vwCl (CT cy a J (va_up I 10 w_19) O (va_up (va_up (va_up (va_up R 13 (R 13)) 15 (R 15)) 17 (R 17)) 19 (R 19)) RO (LL ++ Y)) H := hP
                have hD : va_D A (CT cy a J (va_up I 10 w_19) O (va_up (va_up (va_up (va_up R 13 (R 13)) 15 (R 15)) 17 (R 17)) 19 (R 19)) RO (LL ++ Y)) := hD
                exact wret_i hx hb hr hlocks (J, (va_up I 10 w_19), O, (va_up (va_up (va_up (va_up R 13 (R 13)) 15 (R 15)) 17 (R 17)) 19 (R 19)), RO, LL, Y) ⟨w_19, (R 13), (R 15), (R 17), (R 19), ⟨(cp_no (V := Vs) (cw3 c_1 c_4 (nb0 (by rw [hj_5]; rfl) hSh.1 c_7) (nb0 (by rw [hj_6]; rfl) hSh.1 c_10) (by rw [bq (by rw [hj_5]; rfl) hSh.1, bq (by rw [hj_6]; rfl) hSh.1]; exact c_11)) (by decide)).1, (by rw [(cp_no (cw3 c_1 c_4 (nb0 (by rw [hj_5]; rfl) hSh.1 c_7) (nb0 (by rw [hj_6]; rfl) hSh.1 c_10) (by rw [bq (by rw [hj_5]; rfl) hSh.1, bq (by rw [hj_6]; rfl) hSh.1]; exact c_11)) (by decide)).2]; exact hSh)⟩, rfl⟩ hP hD hS dX9_copy_82
            · replace c_10 := bI_t c_10
              refine lv_aload_n hx hb dX9_copy_55 rfl (lv_at hl 2 rfl) ?_
              refine lv_ldcw (v := (-100002)) hx hb hown hw2 dX9_copy_56 ?_
              refine kM_i (As := [.int (-100002)]) (rest := []) (q0 := 0) ⟨hx, hb, hml, hown, hts⟩ (t_X9_finding l D cy a _ J (va_up I 10 (I 10)) O (va_up (va_up (va_up (va_up R 13 (R 13)) 15 (R 15)) 17 (R 17)) 19 (R 19)) RO LL Y ((-100002) : Int32)   ) (cwV 1 hts gX9_copy_X9_finding rfl rfl rfl (by decide +kernel) ⟨Nat.le_of_ble_eq_true rfl, Nat.le_of_ble_eq_true rfl⟩) hK hN hP hD hS hA rfl rfl rfl hl.1 rfl (Nat.le_of_ble_eq_true rfl) dX9_copy_59 ⟨Nat.le_of_ble_eq_true rfl, Nat.le_of_ble_eq_true rfl⟩ (fun r_20 u H locs hw hP hD hS => ?_)
              obtain ⟨w_21, rfl, rfl⟩ := hw
              have hP : va_P D vwCl (CT cy a J (va_up I 10 w_21) O (va_up (va_up (va_up (va_up R 13 (R 13)) 15 (R 15)) 17 (R 17)) 19 (R 19)) RO (LL ++ Y)) H := hP
              have hD : va_D A (CT cy a J (va_up I 10 w_21) O (va_up (va_up (va_up (va_up R 13 (R 13)) 15 (R 15)) 17 (R 17)) 19 (R 19)) RO (LL ++ Y)) := hD
              exact wret_i hx hb hr hlocks (J, (va_up I 10 w_21), O, (va_up (va_up (va_up (va_up R 13 (R 13)) 15 (R 15)) 17 (R 17)) 19 (R 19)), RO, LL, Y) ⟨w_21, (R 13), (R 15), (R 17), (R 19), ⟨(cp_no (V := Vs) (cw2 c_1 c_4 (Or.inr (eb0 (by rw [hj_6]; rfl) hSh.1 c_10))) (by decide)).1, (by rw [(cp_no (cw2 c_1 c_4 (Or.inr (eb0 (by rw [hj_6]; rfl) hSh.1 c_10))) (by decide)).2]; exact hSh)⟩, rfl⟩ hP hD hS dX9_copy_62
        · refine wtop_v (y := .ref (a 14)) (by rw [hj_6]; exact congrArg va_rf hRO1) ?_
          refine lv_astore (lv' := [(7, .ref (a 14)), (6, .ref (a 12)), (0, .ref (a 0)), (1, .int x0), (2, .int x1), (3, .int x2), (4, .int x3), (5, .int x4)]) hx hb dX9_copy_37 hl (by decide) rfl (fun ls hl => ?_)
          refine lv_aload hx hb dX9_copy_39 (lv_at hl 1 rfl) ?_
          refine kR_i (As := []) (rest := []) (q0 := 12) ⟨hx, hb, hml, hown, hts⟩ (x_X6_isMissing12 l D cy a _ J (va_up I 10 (I 10)) O (va_up (va_up (va_up (va_up R 13 (R 13)) 15 (R 15)) 17 (R 17)) 19 (R 19)) RO LL Y   ) (cwV 0 hts gX9_copy_X6_isMissing rfl rfl rfl (by decide +kernel) ⟨Nat.le_of_ble_eq_true rfl, Nat.le_of_ble_eq_true rfl⟩) hK hN hP hD rfl rfl rfl hl.1 rfl (Nat.le_of_ble_eq_true rfl) dX9_copy_41 ⟨Nat.le_of_ble_eq_true rfl, Nat.le_of_ble_eq_true rfl⟩ ?_
          refine lv_if_ne (tgt := 55) hx hb dX9_copy_44 (by decide) (fun c_22 => ?_) (fun c_22 => ?_)
          · replace c_22 := bI_t c_22
            refine lv_aload_n hx hb dX9_copy_55 rfl (lv_at hl 2 rfl) ?_
            refine lv_ldcw (v := (-100002)) hx hb hown hw2 dX9_copy_56 ?_
            refine kM_i (As := [.int (-100002)]) (rest := []) (q0 := 0) ⟨hx, hb, hml, hown, hts⟩ (t_X9_finding l D cy a _ J (va_up I 10 (I 10)) O (va_up (va_up (va_up (va_up R 13 (R 13)) 15 (R 15)) 17 (R 17)) 19 (R 19)) RO LL Y ((-100002) : Int32)   ) (cwV 1 hts gX9_copy_X9_finding rfl rfl rfl (by decide +kernel) ⟨Nat.le_of_ble_eq_true rfl, Nat.le_of_ble_eq_true rfl⟩) hK hN hP hD hS hA rfl rfl rfl hl.1 rfl (Nat.le_of_ble_eq_true rfl) dX9_copy_59 ⟨Nat.le_of_ble_eq_true rfl, Nat.le_of_ble_eq_true rfl⟩ (fun r_23 u H locs hw hP hD hS => ?_)
            obtain ⟨w_24, rfl, rfl⟩ := hw
            have hP : va_P D vwCl (CT cy a J (va_up I 10 w_24) O (va_up (va_up (va_up (va_up R 13 (R 13)) 15 (R 15)) 17 (R 17)) 19 (R 19)) RO (LL ++ Y)) H := hP
            have hD : va_D A (CT cy a J (va_up I 10 w_24) O (va_up (va_up (va_up (va_up R 13 (R 13)) 15 (R 15)) 17 (R 17)) 19 (R 19)) RO (LL ++ Y)) := hD
            exact wret_i hx hb hr hlocks (J, (va_up I 10 w_24), O, (va_up (va_up (va_up (va_up R 13 (R 13)) 15 (R 15)) 17 (R 17)) 19 (R 19)), RO, LL, Y) ⟨w_24, (R 13), (R 15), (R 17), (R 19), ⟨(cp_no (V := Vs) (cw2 c_1 c_4 (Or.inl (eb0 (by rw [hj_5]; rfl) hSh.1 c_22))) (by decide)).1, (by rw [(cp_no (cw2 c_1 c_4 (Or.inl (eb0 (by rw [hj_5]; rfl) hSh.1 c_22))) (by decide)).2]; exact hSh)⟩, rfl⟩ hP hD hS dX9_copy_62
          · replace c_22 := bI_f c_22
            refine lv_aload hx hb dX9_copy_47 (lv_at hl 0 rfl) ?_
            refine kR_i (As := []) (rest := []) (q0 := 14) ⟨hx, hb, hml, hown, hts⟩ (x_X6_isMissing14 l D cy a _ J (va_up I 10 (I 10)) O (va_up (va_up (va_up (va_up R 13 (R 13)) 15 (R 15)) 17 (R 17)) 19 (R 19)) RO LL Y   ) (cwV 0 hts gX9_copy_X6_isMissing rfl rfl rfl (by decide +kernel) ⟨Nat.le_of_ble_eq_true rfl, Nat.le_of_ble_eq_true rfl⟩) hK hN hP hD rfl rfl rfl hl.1 rfl (Nat.le_of_ble_eq_true rfl) dX9_copy_49 ⟨Nat.le_of_ble_eq_true rfl, Nat.le_of_ble_eq_true rfl⟩ ?_
            refine lv_if_eq (tgt := 63) hx hb dX9_copy_52 (by decide) (fun c_25 => ?_) (fun c_25 => ?_)
            · replace c_25 := bI_f c_25
              refine lv_aload hx hb dX9_copy_63 (lv_at hl 1 rfl) ?_
              refine va_get (D := D) (ci := 5) (v := .int (I 385)) (C := RX6) (T := TX6) (N := 3) hx hb hts hi6 hown hK hP 12 rfl rfl 1 (by decide) hw3 (fun _ h9 => h9) rfl dX9_copy_65 ?_
              refine lv_aload hx hb dX9_copy_68 (lv_at hl 0 rfl) ?_
              refine va_get (D := D) (ci := 5) (v := .int (I 449)) (C := RX6) (T := TX6) (N := 3) hx hb hts hi6 hown hK hP 14 rfl rfl 1 (by decide) hw3 (fun _ h9 => h9) rfl dX9_copy_70 ?_
              refine lv_icmp_eq (tgt := 83) hx hb dX9_copy_73 (by decide) (fun c_26 => ?_) (fun c_26 => ?_)
              · refine lv_aload hx hb dX9_copy_83 (lv_at hl 1 rfl) ?_
                refine lv_iload_n hx hb dX9_copy_85 rfl (lv_at hl 4 rfl) ?_
                refine lv_iload hx hb dX9_copy_86 (lv_at hl 7 rfl) ?_
                refine kR_i (As := [.int x1, .int x4]) (rest := []) (q0 := 12) ⟨hx, hb, hml, hown, hts⟩ (x_X6_hasRange12 l D cy a _ J (va_up I 10 (I 10)) O (va_up (va_up (va_up (va_up R 13 (R 13)) 15 (R 15)) 17 (R 17)) 19 (R 19)) RO LL Y x1 x4  ) (cwV 2 hts gX9_copy_X6_hasRange rfl rfl rfl (by decide +kernel) ⟨Nat.le_of_ble_eq_true rfl, Nat.le_of_ble_eq_true rfl⟩) hK hN hP hD rfl rfl rfl hl.1 rfl (Nat.le_of_ble_eq_true rfl) dX9_copy_88 ⟨Nat.le_of_ble_eq_true rfl, Nat.le_of_ble_eq_true rfl⟩ ?_
                refine lv_if_eq (tgt := 106) hx hb dX9_copy_91 (by decide) (fun c_27 => ?_) (fun c_27 => ?_)
                · replace c_27 := bI_f c_27
                  refine lv_aload_n hx hb dX9_copy_106 rfl (lv_at hl 2 rfl) ?_
                  refine lv_ldc (v := (-100001)) hx hb hown hw0 dX9_copy_107 ?_
                  refine kM_i (As := [.int (-100001)]) (rest := []) (q0 := 0) ⟨hx, hb, hml, hown, hts⟩ (t_X9_finding l D cy a _ J (va_up I 10 (I 10)) O (va_up (va_up (va_up (va_up R 13 (R 13)) 15 (R 15)) 17 (R 17)) 19 (R 19)) RO LL Y ((-100001) : Int32)   ) (cwV 1 hts gX9_copy_X9_finding rfl rfl rfl (by decide +kernel) ⟨Nat.le_of_ble_eq_true rfl, Nat.le_of_ble_eq_true rfl⟩) hK hN hP hD hS hA rfl rfl rfl hl.1 rfl (Nat.le_of_ble_eq_true rfl) dX9_copy_109 ⟨Nat.le_of_ble_eq_true rfl, Nat.le_of_ble_eq_true rfl⟩ (fun r_28 u H locs hw hP hD hS => ?_)
                  obtain ⟨w_29, rfl, rfl⟩ := hw
                  have hP : va_P D vwCl (CT cy a J (va_up I 10 w_29) O (va_up (va_up (va_up (va_up R 13 (R 13)) 15 (R 15)) 17 (R 17)) 19 (R 19)) RO (LL ++ Y)) H := hP
                  have hD : va_D A (CT cy a J (va_up I 10 w_29) O (va_up (va_up (va_up (va_up R 13 (R 13)) 15 (R 15)) 17 (R 17)) 19 (R 19)) RO (LL ++ Y)) := hD
                  exact wret_i hx hb hr hlocks (J, (va_up I 10 w_29), O, (va_up (va_up (va_up (va_up R 13 (R 13)) 15 (R 15)) 17 (R 17)) 19 (R 19)), RO, LL, Y) ⟨w_29, (R 13), (R 15), (R 17), (R 19), ⟨(cp_no (V := Vs) (cw4 c_1 c_4 (nb0 (by rw [hj_5]; rfl) hSh.1 c_22) (nb0 (by rw [hj_6]; rfl) hSh.2.1 c_25) (by rw [bq (by rw [hj_5]; rfl) hSh.1, bq (by rw [hj_6]; rfl) hSh.2.1]; exact c_26) (ck_f1 (by rw [hj_5]; rfl) hSh.1 c_27)) (by decide)).1, (by rw [(cp_no (cw4 c_1 c_4 (nb0 (by rw [hj_5]; rfl) hSh.1 c_22) (nb0 (by rw [hj_6]; rfl) hSh.2.1 c_25) (by rw [bq (by rw [hj_5]; rfl) hSh.1, bq (by rw [hj_6]; rfl) hSh.2.1]; exact c_26) (ck_f1 (by rw [hj_5]; rfl) hSh.1 c_27)) (by decide)).2]; exact hSh)⟩, rfl⟩ hP hD hS dX9_copy_112
                · replace c_27 := bI_t c_27
                  refine lv_aload hx hb dX9_copy_94 (lv_at hl 0 rfl) ?_
                  refine lv_iload hx hb dX9_copy_96 (lv_at hl 6 rfl) ?_
                  refine lv_iload hx hb dX9_copy_98 (lv_at hl 7 rfl) ?_
                  refine kR_i (As := [.int x3, .int x4]) (rest := []) (q0 := 14) ⟨hx, hb, hml, hown, hts⟩ (x_X6_hasRange14 l D cy a _ J (va_up I 10 (I 10)) O (va_up (va_up (va_up (va_up R 13 (R 13)) 15 (R 15)) 17 (R 17)) 19 (R 19)) RO LL Y x3 x4  ) (cwV 2 hts gX9_copy_X6_hasRange rfl rfl rfl (by decide +kernel) ⟨Nat.le_of_ble_eq_true rfl, Nat.le_of_ble_eq_true rfl⟩) hK hN hP hD rfl rfl rfl hl.1 rfl (Nat.le_of_ble_eq_true rfl) dX9_copy_100 ⟨Nat.le_of_ble_eq_true rfl, Nat.le_of_ble_eq_true rfl⟩ ?_
                  refine lv_if_ne (tgt := 113) hx hb dX9_copy_103 (by decide) (fun c_30 => ?_) (fun c_30 => ?_)
                  · replace c_30 := bI_t c_30
                    refine lv_aload hx hb dX9_copy_113 (lv_at hl 1 rfl) ?_
                    refine va_get (D := D) (ci := 5) (v := .ref (a 13)) (C := RX6) (T := TX6) (N := 3) hx hb hts hi6 hown hK hP 12 rfl rfl 0 (by decide) hw4 (fun _ h9 => h9) rfl dX9_copy_115 ?_
                    refine lv_iload_n hx hb dX9_copy_118 rfl (lv_at hl 4 rfl) ?_
                    refine lv_aload hx hb dX9_copy_119 (lv_at hl 0 rfl) ?_
                    refine va_get (D := D) (ci := 5) (v := .ref (a 15)) (C := RX6) (T := TX6) (N := 3) hx hb hts hi6 hown hK hP 14 rfl rfl 0 (by decide) hw4 (fun _ h9 => h9) rfl dX9_copy_121 ?_
                    refine lv_iload hx hb dX9_copy_124 (lv_at hl 6 rfl) ?_
                    refine lv_iload hx hb dX9_copy_126 (lv_at hl 7 rfl) ?_
                    refine va_copyi hx hb (by rw [hml]; exact hl.1.symm) hown hw5 hw6 hw7 hw8 hK hP hD hS 13 15 0 0 rfl rfl rfl rfl rfl (rng_hr hSh.1 c_27).1 (rng_hr hSh.2.1 c_30).1 (rng_hr hSh.1 c_27).2.1 (rng_hr hSh.1 c_27).2.2 (rng_hr hSh.2.1 c_30).2.2 (fun _ _ => rfl) (Nat.le_of_ble_eq_true rfl) (Nat.le_of_ble_eq_true rfl) dX9_copy_128 (fun H locs hP hD hS => ?_)
                    have hP : va_P D vwCl (CT cy a J (va_up I 10 (I 10)) O (va_up (va_up (va_up (va_up R 13 (R 13)) 15 (va_cpy (R 13) (R 15) x1.toNatClampNeg x3.toNatClampNeg x4.toNatClampNeg)) 17 (R 17)) 19 (R 19)) RO (LL ++ Y)) H := hP
                    have hD : va_D A (CT cy a J (va_up I 10 (I 10)) O (va_up (va_up (va_up (va_up R 13 (R 13)) 15 (va_cpy (R 13) (R 15) x1.toNatClampNeg x3.toNatClampNeg x4.toNatClampNeg)) 17 (R 17)) 19 (R 19)) RO (LL ++ Y)) := hD
                    refine lv_iload hx hb dX9_copy_131 (lv_at hl 7 rfl) ?_
                    exact wret_i hx hb hr hlocks (J, (va_up I 10 (I 10)), O, (va_up (va_up (va_up (va_up R 13 (R 13)) 15 (va_cpy (R 13) (R 15) x1.toNatClampNeg x3.toNatClampNeg x4.toNatClampNeg)) 17 (R 17)) 19 (R 19)), RO, LL, Y) ⟨(I 10), (R 13), (va_cpy (R 13) (R 15) x1.toNatClampNeg x3.toNatClampNeg x4.toNatClampNeg), (R 17), (R 19), ⟨(cp_yes (V := Vs) (cw5 c_1 c_4 (nb0 (by rw [hj_5]; rfl) hSh.1 c_22) (nb0 (by rw [hj_6]; rfl) hSh.2.1 c_25) (by rw [bq (by rw [hj_5]; rfl) hSh.1, bq (by rw [hj_6]; rfl) hSh.2.1]; exact c_26) (ck_t (by rw [hj_5]; rfl) hSh.1 (by rw [hj_6]; rfl) hSh.2.1 c_27 c_30))).1, (by rw [(cp_yes (cw5 c_1 c_4 (nb0 (by rw [hj_5]; rfl) hSh.1 c_22) (nb0 (by rw [hj_6]; rfl) hSh.2.1 c_25) (by rw [bq (by rw [hj_5]; rfl) hSh.1, bq (by rw [hj_6]; rfl) hSh.2.1]; exact c_26) (ck_t (by rw [hj_5]; rfl) hSh.1 (by rw [hj_6]; rfl) hSh.2.1 c_27 c_30))).2]; exact RCs_v1 (by rw [hj_6]; rfl) hSh (ck_v (by rw [hj_5]; rfl) hSh.1 (by rw [hj_6]; rfl) hSh.2.1 c_27 c_30))⟩, rfl⟩ hP hD hS dX9_copy_133
                  · replace c_30 := bI_f c_30
                    refine lv_aload_n hx hb dX9_copy_106 rfl (lv_at hl 2 rfl) ?_
                    refine lv_ldc (v := (-100001)) hx hb hown hw0 dX9_copy_107 ?_
                    refine kM_i (As := [.int (-100001)]) (rest := []) (q0 := 0) ⟨hx, hb, hml, hown, hts⟩ (t_X9_finding l D cy a _ J (va_up I 10 (I 10)) O (va_up (va_up (va_up (va_up R 13 (R 13)) 15 (R 15)) 17 (R 17)) 19 (R 19)) RO LL Y ((-100001) : Int32)   ) (cwV 1 hts gX9_copy_X9_finding rfl rfl rfl (by decide +kernel) ⟨Nat.le_of_ble_eq_true rfl, Nat.le_of_ble_eq_true rfl⟩) hK hN hP hD hS hA rfl rfl rfl hl.1 rfl (Nat.le_of_ble_eq_true rfl) dX9_copy_109 ⟨Nat.le_of_ble_eq_true rfl, Nat.le_of_ble_eq_true rfl⟩ (fun r_31 u H locs hw hP hD hS => ?_)
                    obtain ⟨w_32, rfl, rfl⟩ := hw
                    have hP : va_P D vwCl (CT cy a J (va_up I 10 w_32) O (va_up (va_up (va_up (va_up R 13 (R 13)) 15 (R 15)) 17 (R 17)) 19 (R 19)) RO (LL ++ Y)) H := hP
                    have hD : va_D A (CT cy a J (va_up I 10 w_32) O (va_up (va_up (va_up (va_up R 13 (R 13)) 15 (R 15)) 17 (R 17)) 19 (R 19)) RO (LL ++ Y)) := hD
                    exact wret_i hx hb hr hlocks (J, (va_up I 10 w_32), O, (va_up (va_up (va_up (va_up R 13 (R 13)) 15 (R 15)) 17 (R 17)) 19 (R 19)), RO, LL, Y) ⟨w_32, (R 13), (R 15), (R 17), (R 19), ⟨(cp_no (V := Vs) (cw4 c_1 c_4 (nb0 (by rw [hj_5]; rfl) hSh.1 c_22) (nb0 (by rw [hj_6]; rfl) hSh.2.1 c_25) (by rw [bq (by rw [hj_5]; rfl) hSh.1, bq (by rw [hj_6]; rfl) hSh.2.1]; exact c_26) (ck_f2 (by rw [hj_6]; rfl) hSh.2.1 c_30)) (by decide)).1, (by rw [(cp_no (cw4 c_1 c_4 (nb0 (by rw [hj_5]; rfl) hSh.1 c_22) (nb0 (by rw [hj_6]; rfl) hSh.2.1 c_25) (by rw [bq (by rw [hj_5]; rfl) hSh.1, bq (by rw [hj_6]; rfl) hSh.2.1]; exact c_26) (ck_f2 (by rw [hj_6]; rfl) hSh.2.1 c_30)) (by decide)).2]; exact hSh)⟩, rfl⟩ hP hD hS dX9_copy_112
              · refine lv_aload_n hx hb dX9_copy_76 rfl (lv_at hl 2 rfl) ?_
                refine lv_ldc (v := (-100004)) hx hb hown hw9 dX9_copy_77 ?_
                refine kM_i (As := [.int (-100004)]) (rest := []) (q0 := 0) ⟨hx, hb, hml, hown, hts⟩ (t_X9_finding l D cy a _ J (va_up I 10 (I 10)) O (va_up (va_up (va_up (va_up R 13 (R 13)) 15 (R 15)) 17 (R 17)) 19 (R 19)) RO LL Y ((-100004) : Int32)   ) (cwV 1 hts gX9_copy_X9_finding rfl rfl rfl (by decide +kernel) ⟨Nat.le_of_ble_eq_true rfl, Nat.le_of_ble_eq_true rfl⟩) hK hN hP hD hS hA rfl rfl rfl hl.1 rfl (Nat.le_of_ble_eq_true rfl) dX9_copy_79 ⟨Nat.le_of_ble_eq_true rfl, Nat.le_of_ble_eq_true rfl⟩ (fun r_33 u H locs hw hP hD hS => ?_)
                obtain ⟨w_34, rfl, rfl⟩ := hw
                have hP : va_P D vwCl (CT cy a J (va_up I 10 w_34) O (va_up (va_up (va_up (va_up R 13 (R 13)) 15 (R 15)) 17 (R 17)) 19 (R 19)) RO (LL ++ Y)) H := hP
                have hD : va_D A (CT cy a J (va_up I 10 w_34) O (va_up (va_up (va_up (va_up R 13 (R 13)) 15 (R 15)) 17 (R 17)) 19 (R 19)) RO (LL ++ Y)) := hD
                exact wret_i hx hb hr hlocks (J, (va_up I 10 w_34), O, (va_up (va_up (va_up (va_up R 13 (R 13)) 15 (R 15)) 17 (R 17)) 19 (R 19)), RO, LL, Y) ⟨w_34, (R 13), (R 15), (R 17), (R 19), ⟨(cp_no (V := Vs) (cw3 c_1 c_4 (nb0 (by rw [hj_5]; rfl) hSh.1 c_22) (nb0 (by rw [hj_6]; rfl) hSh.2.1 c_25) (by rw [bq (by rw [hj_5]; rfl) hSh.1, bq (by rw [hj_6]; rfl) hSh.2.1]; exact c_26)) (by decide)).1, (by rw [(cp_no (cw3 c_1 c_4 (nb0 (by rw [hj_5]; rfl) hSh.1 c_22) (nb0 (by rw [hj_6]; rfl) hSh.2.1 c_25) (by rw [bq (by rw [hj_5]; rfl) hSh.1, bq (by rw [hj_6]; rfl) hSh.2.1]; exact c_26)) (by decide)).2]; exact hSh)⟩, rfl⟩ hP hD hS dX9_copy_82
            · replace c_25 := bI_t c_25
              refine lv_aload_n hx hb dX9_copy_55 rfl (lv_at hl 2 rfl) ?_
              refine lv_ldcw (v := (-100002)) hx hb hown hw2 dX9_copy_56 ?_
              refine kM_i (As := [.int (-100002)]) (rest := []) (q0 := 0) ⟨hx, hb, hml, hown, hts⟩ (t_X9_finding l D cy a _ J (va_up I 10 (I 10)) O (va_up (va_up (va_up (va_up R 13 (R 13)) 15 (R 15)) 17 (R 17)) 19 (R 19)) RO LL Y ((-100002) : Int32)   ) (cwV 1 hts gX9_copy_X9_finding rfl rfl rfl (by decide +kernel) ⟨Nat.le_of_ble_eq_true rfl, Nat.le_of_ble_eq_true rfl⟩) hK hN hP hD hS hA rfl rfl rfl hl.1 rfl (Nat.le_of_ble_eq_true rfl) dX9_copy_59 ⟨Nat.le_of_ble_eq_true rfl, Nat.le_of_ble_eq_true rfl⟩ (fun r_35 u H locs hw hP hD hS => ?_)
              obtain ⟨w_36, rfl, rfl⟩ := hw
              have hP : va_P D vwCl (CT cy a J (va_up I 10 w_36) O (va_up (va_up (va_up (va_up R 13 (R 13)) 15 (R 15)) 17 (R 17)) 19 (R 19)) RO (LL ++ Y)) H := hP
              have hD : va_D A (CT cy a J (va_up I 10 w_36) O (va_up (va_up (va_up (va_up R 13 (R 13)) 15 (R 15)) 17 (R 17)) 19 (R 19)) RO (LL ++ Y)) := hD
              exact wret_i hx hb hr hlocks (J, (va_up I 10 w_36), O, (va_up (va_up (va_up (va_up R 13 (R 13)) 15 (R 15)) 17 (R 17)) 19 (R 19)), RO, LL, Y) ⟨w_36, (R 13), (R 15), (R 17), (R 19), ⟨(cp_no (V := Vs) (cw2 c_1 c_4 (Or.inr (eb0 (by rw [hj_6]; rfl) hSh.2.1 c_25))) (by decide)).1, (by rw [(cp_no (cw2 c_1 c_4 (Or.inr (eb0 (by rw [hj_6]; rfl) hSh.2.1 c_25))) (by decide)).2]; exact hSh)⟩, rfl⟩ hP hD hS dX9_copy_62
        · refine wtop_v (y := .ref (a 16)) (by rw [hj_6]; exact congrArg va_rf hRO2) ?_
          refine lv_astore (lv' := [(7, .ref (a 16)), (6, .ref (a 12)), (0, .ref (a 0)), (1, .int x0), (2, .int x1), (3, .int x2), (4, .int x3), (5, .int x4)]) hx hb dX9_copy_37 hl (by decide) rfl (fun ls hl => ?_)
          refine lv_aload hx hb dX9_copy_39 (lv_at hl 1 rfl) ?_
          refine kR_i (As := []) (rest := []) (q0 := 12) ⟨hx, hb, hml, hown, hts⟩ (x_X6_isMissing12 l D cy a _ J (va_up I 10 (I 10)) O (va_up (va_up (va_up (va_up R 13 (R 13)) 15 (R 15)) 17 (R 17)) 19 (R 19)) RO LL Y   ) (cwV 0 hts gX9_copy_X6_isMissing rfl rfl rfl (by decide +kernel) ⟨Nat.le_of_ble_eq_true rfl, Nat.le_of_ble_eq_true rfl⟩) hK hN hP hD rfl rfl rfl hl.1 rfl (Nat.le_of_ble_eq_true rfl) dX9_copy_41 ⟨Nat.le_of_ble_eq_true rfl, Nat.le_of_ble_eq_true rfl⟩ ?_
          refine lv_if_ne (tgt := 55) hx hb dX9_copy_44 (by decide) (fun c_37 => ?_) (fun c_37 => ?_)
          · replace c_37 := bI_t c_37
            refine lv_aload_n hx hb dX9_copy_55 rfl (lv_at hl 2 rfl) ?_
            refine lv_ldcw (v := (-100002)) hx hb hown hw2 dX9_copy_56 ?_
            refine kM_i (As := [.int (-100002)]) (rest := []) (q0 := 0) ⟨hx, hb, hml, hown, hts⟩ (t_X9_finding l D cy a _ J (va_up I 10 (I 10)) O (va_up (va_up (va_up (va_up R 13 (R 13)) 15 (R 15)) 17 (R 17)) 19 (R 19)) RO LL Y ((-100002) : Int32)   ) (cwV 1 hts gX9_copy_X9_finding rfl rfl rfl (by decide +kernel) ⟨Nat.le_of_ble_eq_true rfl, Nat.le_of_ble_eq_true rfl⟩) hK hN hP hD hS hA rfl rfl rfl hl.1 rfl (Nat.le_of_ble_eq_true rfl) dX9_copy_59 ⟨Nat.le_of_ble_eq_true rfl, Nat.le_of_ble_eq_true rfl⟩ (fun r_38 u H locs hw hP hD hS => ?_)
            obtain ⟨w_39, rfl, rfl⟩ := hw
            have hP : va_P D vwCl (CT cy a J (va_up I 10 w_39) O (va_up (va_up (va_up (va_up R 13 (R 13)) 15 (R 15)) 17 (R 17)) 19 (R 19)) RO (LL ++ Y)) H := hP
            have hD : va_D A (CT cy a J (va_up I 10 w_39) O (va_up (va_up (va_up (va_up R 13 (R 13)) 15 (R 15)) 17 (R 17)) 19 (R 19)) RO (LL ++ Y)) := hD
            exact wret_i hx hb hr hlocks (J, (va_up I 10 w_39), O, (va_up (va_up (va_up (va_up R 13 (R 13)) 15 (R 15)) 17 (R 17)) 19 (R 19)), RO, LL, Y) ⟨w_39, (R 13), (R 15), (R 17), (R 19), ⟨(cp_no (V := Vs) (cw2 c_1 c_4 (Or.inl (eb0 (by rw [hj_5]; rfl) hSh.1 c_37))) (by decide)).1, (by rw [(cp_no (cw2 c_1 c_4 (Or.inl (eb0 (by rw [hj_5]; rfl) hSh.1 c_37))) (by decide)).2]; exact hSh)⟩, rfl⟩ hP hD hS dX9_copy_62
          · replace c_37 := bI_f c_37
            refine lv_aload hx hb dX9_copy_47 (lv_at hl 0 rfl) ?_
            refine kR_i (As := []) (rest := []) (q0 := 16) ⟨hx, hb, hml, hown, hts⟩ (x_X6_isMissing16 l D cy a _ J (va_up I 10 (I 10)) O (va_up (va_up (va_up (va_up R 13 (R 13)) 15 (R 15)) 17 (R 17)) 19 (R 19)) RO LL Y   ) (cwV 0 hts gX9_copy_X6_isMissing rfl rfl rfl (by decide +kernel) ⟨Nat.le_of_ble_eq_true rfl, Nat.le_of_ble_eq_true rfl⟩) hK hN hP hD rfl rfl rfl hl.1 rfl (Nat.le_of_ble_eq_true rfl) dX9_copy_49 ⟨Nat.le_of_ble_eq_true rfl, Nat.le_of_ble_eq_true rfl⟩ ?_
            refine lv_if_eq (tgt := 63) hx hb dX9_copy_52 (by decide) (fun c_40 => ?_) (fun c_40 => ?_)
            · replace c_40 := bI_f c_40
              refine lv_aload hx hb dX9_copy_63 (lv_at hl 1 rfl) ?_
              refine va_get (D := D) (ci := 5) (v := .int (I 385)) (C := RX6) (T := TX6) (N := 3) hx hb hts hi6 hown hK hP 12 rfl rfl 1 (by decide) hw3 (fun _ h9 => h9) rfl dX9_copy_65 ?_
              refine lv_aload hx hb dX9_copy_68 (lv_at hl 0 rfl) ?_
              refine va_get (D := D) (ci := 5) (v := .int (I 513)) (C := RX6) (T := TX6) (N := 3) hx hb hts hi6 hown hK hP 16 rfl rfl 1 (by decide) hw3 (fun _ h9 => h9) rfl dX9_copy_70 ?_
              refine lv_icmp_eq (tgt := 83) hx hb dX9_copy_73 (by decide) (fun c_41 => ?_) (fun c_41 => ?_)
              · refine lv_aload hx hb dX9_copy_83 (lv_at hl 1 rfl) ?_
                refine lv_iload_n hx hb dX9_copy_85 rfl (lv_at hl 4 rfl) ?_
                refine lv_iload hx hb dX9_copy_86 (lv_at hl 7 rfl) ?_
                refine kR_i (As := [.int x1, .int x4]) (rest := []) (q0 := 12) ⟨hx, hb, hml, hown, hts⟩ (x_X6_hasRange12 l D cy a _ J (va_up I 10 (I 10)) O (va_up (va_up (va_up (va_up R 13 (R 13)) 15 (R 15)) 17 (R 17)) 19 (R 19)) RO LL Y x1 x4  ) (cwV 2 hts gX9_copy_X6_hasRange rfl rfl rfl (by decide +kernel) ⟨Nat.le_of_ble_eq_true rfl, Nat.le_of_ble_eq_true rfl⟩) hK hN hP hD rfl rfl rfl hl.1 rfl (Nat.le_of_ble_eq_true rfl) dX9_copy_88 ⟨Nat.le_of_ble_eq_true rfl, Nat.le_of_ble_eq_true rfl⟩ ?_
                refine lv_if_eq (tgt := 106) hx hb dX9_copy_91 (by decide) (fun c_42 => ?_) (fun c_42 => ?_)
                · replace c_42 := bI_f c_42
                  refine lv_aload_n hx hb dX9_copy_106 rfl (lv_at hl 2 rfl) ?_
                  refine lv_ldc (v := (-100001)) hx hb hown hw0 dX9_copy_107 ?_
                  refine kM_i (As := [.int (-100001)]) (rest := []) (q0 := 0) ⟨hx, hb, hml, hown, hts⟩ (t_X9_finding l D cy a _ J (va_up I 10 (I 10)) O (va_up (va_up (va_up (va_up R 13 (R 13)) 15 (R 15)) 17 (R 17)) 19 (R 19)) RO LL Y ((-100001) : Int32)   ) (cwV 1 hts gX9_copy_X9_finding rfl rfl rfl (by decide +kernel) ⟨Nat.le_of_ble_eq_true rfl, Nat.le_of_ble_eq_true rfl⟩) hK hN hP hD hS hA rfl rfl rfl hl.1 rfl (Nat.le_of_ble_eq_true rfl) dX9_copy_109 ⟨Nat.le_of_ble_eq_true rfl, Nat.le_of_ble_eq_true rfl⟩ (fun r_43 u H locs hw hP hD hS => ?_)
                  obtain ⟨w_44, rfl, rfl⟩ := hw
                  have hP : va_P D vwCl (CT cy a J (va_up I 10 w_44) O (va_up (va_up (va_up (va_up R 13 (R 13)) 15 (R 15)) 17 (R 17)) 19 (R 19)) RO (LL ++ Y)) H := hP
                  have hD : va_D A (CT cy a J (va_up I 10 w_44) O (va_up (va_up (va_up (va_up R 13 (R 13)) 15 (R 15)) 17 (R 17)) 19 (R 19)) RO (LL ++ Y)) := hD
                  exact wret_i hx hb hr hlocks (J, (va_up I 10 w_44), O, (va_up (va_up (va_up (va_up R 13 (R 13)) 15 (R 15)) 17 (R 17)) 19 (R 19)), RO, LL, Y) ⟨w_44, (R 13), (R 15), (R 17), (R 19), ⟨(cp_no (V := Vs) (cw4 c_1 c_4 (nb0 (by rw [hj_5]; rfl) hSh.1 c_37) (nb0 (by rw [hj_6]; rfl) hSh.2.2.1 c_40) (by rw [bq (by rw [hj_5]; rfl) hSh.1, bq (by rw [hj_6]; rfl) hSh.2.2.1]; exact c_41) (ck_f1 (by rw [hj_5]; rfl) hSh.1 c_42)) (by decide)).1, (by rw [(cp_no (cw4 c_1 c_4 (nb0 (by rw [hj_5]; rfl) hSh.1 c_37) (nb0 (by rw [hj_6]; rfl) hSh.2.2.1 c_40) (by rw [bq (by rw [hj_5]; rfl) hSh.1, bq (by rw [hj_6]; rfl) hSh.2.2.1]; exact c_41) (ck_f1 (by rw [hj_5]; rfl) hSh.1 c_42)) (by decide)).2]; exact hSh)⟩, rfl⟩ hP hD hS dX9_copy_112
                · replace c_42 := bI_t c_42
                  refine lv_aload hx hb dX9_copy_94 (lv_at hl 0 rfl) ?_
                  refine lv_iload hx hb dX9_copy_96 (lv_at hl 6 rfl) ?_
                  refine lv_iload hx hb dX9_copy_98 (lv_at hl 7 rfl) ?_
                  refine kR_i (As := [.int x3, .int x4]) (rest := []) (q0 := 16) ⟨hx, hb, hml, hown, hts⟩ (x_X6_hasRange16 l D cy a _ J (va_up I 10 (I 10)) O (va_up (va_up (va_up (va_up R 13 (R 13)) 15 (R 15)) 17 (R 17)) 19 (R 19)) RO LL Y x3 x4  ) (cwV 2 hts gX9_copy_X6_hasRange rfl rfl rfl (by decide +kernel) ⟨Nat.le_of_ble_eq_true rfl, Nat.le_of_ble_eq_true rfl⟩) hK hN hP hD rfl rfl rfl hl.1 rfl (Nat.le_of_ble_eq_true rfl) dX9_copy_100 ⟨Nat.le_of_ble_eq_true rfl, Nat.le_of_ble_eq_true rfl⟩ ?_
                  refine lv_if_ne (tgt := 113) hx hb dX9_copy_103 (by decide) (fun c_45 => ?_) (fun c_45 => ?_)
                  · replace c_45 := bI_t c_45
                    refine lv_aload hx hb dX9_copy_113 (lv_at hl 1 rfl) ?_
                    refine va_get (D := D) (ci := 5) (v := .ref (a 13)) (C := RX6) (T := TX6) (N := 3) hx hb hts hi6 hown hK hP 12 rfl rfl 0 (by decide) hw4 (fun _ h9 => h9) rfl dX9_copy_115 ?_
                    refine lv_iload_n hx hb dX9_copy_118 rfl (lv_at hl 4 rfl) ?_
                    refine lv_aload hx hb dX9_copy_119 (lv_at hl 0 rfl) ?_
                    refine va_get (D := D) (ci := 5) (v := .ref (a 17)) (C := RX6) (T := TX6) (N := 3) hx hb hts hi6 hown hK hP 16 rfl rfl 0 (by decide) hw4 (fun _ h9 => h9) rfl dX9_copy_121 ?_
                    refine lv_iload hx hb dX9_copy_124 (lv_at hl 6 rfl) ?_
                    refine lv_iload hx hb dX9_copy_126 (lv_at hl 7 rfl) ?_
                    refine va_copyi hx hb (by rw [hml]; exact hl.1.symm) hown hw5 hw6 hw7 hw8 hK hP hD hS 13 17 0 0 rfl rfl rfl rfl rfl (rng_hr hSh.1 c_42).1 (rng_hr hSh.2.2.1 c_45).1 (rng_hr hSh.1 c_42).2.1 (rng_hr hSh.1 c_42).2.2 (rng_hr hSh.2.2.1 c_45).2.2 (fun _ _ => rfl) (Nat.le_of_ble_eq_true rfl) (Nat.le_of_ble_eq_true rfl) dX9_copy_128 (fun H locs hP hD hS => ?_)
                    have hP : va_P D vwCl (CT cy a J (va_up I 10 (I 10)) O (va_up (va_up (va_up (va_up R 13 (R 13)) 15 (R 15)) 17 (va_cpy (R 13) (R 17) x1.toNatClampNeg x3.toNatClampNeg x4.toNatClampNeg)) 19 (R 19)) RO (LL ++ Y)) H := hP
                    have hD : va_D A (CT cy a J (va_up I 10 (I 10)) O (va_up (va_up (va_up (va_up R 13 (R 13)) 15 (R 15)) 17 (va_cpy (R 13) (R 17) x1.toNatClampNeg x3.toNatClampNeg x4.toNatClampNeg)) 19 (R 19)) RO (LL ++ Y)) := hD
                    refine lv_iload hx hb dX9_copy_131 (lv_at hl 7 rfl) ?_
                    exact wret_i hx hb hr hlocks (J, (va_up I 10 (I 10)), O, (va_up (va_up (va_up (va_up R 13 (R 13)) 15 (R 15)) 17 (va_cpy (R 13) (R 17) x1.toNatClampNeg x3.toNatClampNeg x4.toNatClampNeg)) 19 (R 19)), RO, LL, Y) ⟨(I 10), (R 13), (R 15), (va_cpy (R 13) (R 17) x1.toNatClampNeg x3.toNatClampNeg x4.toNatClampNeg), (R 19), ⟨(cp_yes (V := Vs) (cw5 c_1 c_4 (nb0 (by rw [hj_5]; rfl) hSh.1 c_37) (nb0 (by rw [hj_6]; rfl) hSh.2.2.1 c_40) (by rw [bq (by rw [hj_5]; rfl) hSh.1, bq (by rw [hj_6]; rfl) hSh.2.2.1]; exact c_41) (ck_t (by rw [hj_5]; rfl) hSh.1 (by rw [hj_6]; rfl) hSh.2.2.1 c_42 c_45))).1, (by rw [(cp_yes (cw5 c_1 c_4 (nb0 (by rw [hj_5]; rfl) hSh.1 c_37) (nb0 (by rw [hj_6]; rfl) hSh.2.2.1 c_40) (by rw [bq (by rw [hj_5]; rfl) hSh.1, bq (by rw [hj_6]; rfl) hSh.2.2.1]; exact c_41) (ck_t (by rw [hj_5]; rfl) hSh.1 (by rw [hj_6]; rfl) hSh.2.2.1 c_42 c_45))).2]; exact RCs_v2 (by rw [hj_6]; rfl) hSh (ck_v (by rw [hj_5]; rfl) hSh.1 (by rw [hj_6]; rfl) hSh.2.2.1 c_42 c_45))⟩, rfl⟩ hP hD hS dX9_copy_133
                  · replace c_45 := bI_f c_45
                    refine lv_aload_n hx hb dX9_copy_106 rfl (lv_at hl 2 rfl) ?_
                    refine lv_ldc (v := (-100001)) hx hb hown hw0 dX9_copy_107 ?_
                    refine kM_i (As := [.int (-100001)]) (rest := []) (q0 := 0) ⟨hx, hb, hml, hown, hts⟩ (t_X9_finding l D cy a _ J (va_up I 10 (I 10)) O (va_up (va_up (va_up (va_up R 13 (R 13)) 15 (R 15)) 17 (R 17)) 19 (R 19)) RO LL Y ((-100001) : Int32)   ) (cwV 1 hts gX9_copy_X9_finding rfl rfl rfl (by decide +kernel) ⟨Nat.le_of_ble_eq_true rfl, Nat.le_of_ble_eq_true rfl⟩) hK hN hP hD hS hA rfl rfl rfl hl.1 rfl (Nat.le_of_ble_eq_true rfl) dX9_copy_109 ⟨Nat.le_of_ble_eq_true rfl, Nat.le_of_ble_eq_true rfl⟩ (fun r_46 u H locs hw hP hD hS => ?_)
                    obtain ⟨w_47, rfl, rfl⟩ := hw
                    have hP : va_P D vwCl (CT cy a J (va_up I 10 w_47) O (va_up (va_up (va_up (va_up R 13 (R 13)) 15 (R 15)) 17 (R 17)) 19 (R 19)) RO (LL ++ Y)) H := hP
                    have hD : va_D A (CT cy a J (va_up I 10 w_47) O (va_up (va_up (va_up (va_up R 13 (R 13)) 15 (R 15)) 17 (R 17)) 19 (R 19)) RO (LL ++ Y)) := hD
                    exact wret_i hx hb hr hlocks (J, (va_up I 10 w_47), O, (va_up (va_up (va_up (va_up R 13 (R 13)) 15 (R 15)) 17 (R 17)) 19 (R 19)), RO, LL, Y) ⟨w_47, (R 13), (R 15), (R 17), (R 19), ⟨(cp_no (V := Vs) (cw4 c_1 c_4 (nb0 (by rw [hj_5]; rfl) hSh.1 c_37) (nb0 (by rw [hj_6]; rfl) hSh.2.2.1 c_40) (by rw [bq (by rw [hj_5]; rfl) hSh.1, bq (by rw [hj_6]; rfl) hSh.2.2.1]; exact c_41) (ck_f2 (by rw [hj_6]; rfl) hSh.2.2.1 c_45)) (by decide)).1, (by rw [(cp_no (cw4 c_1 c_4 (nb0 (by rw [hj_5]; rfl) hSh.1 c_37) (nb0 (by rw [hj_6]; rfl) hSh.2.2.1 c_40) (by rw [bq (by rw [hj_5]; rfl) hSh.1, bq (by rw [hj_6]; rfl) hSh.2.2.1]; exact c_41) (ck_f2 (by rw [hj_6]; rfl) hSh.2.2.1 c_45)) (by decide)).2]; exact hSh)⟩, rfl⟩ hP hD hS dX9_copy_112
              · refine lv_aload_n hx hb dX9_copy_76 rfl (lv_at hl 2 rfl) ?_
                refine lv_ldc (v := (-100004)) hx hb hown hw9 dX9_copy_77 ?_
                refine kM_i (As := [.int (-100004)]) (rest := []) (q0 := 0) ⟨hx, hb, hml, hown, hts⟩ (t_X9_finding l D cy a _ J (va_up I 10 (I 10)) O (va_up (va_up (va_up (va_up R 13 (R 13)) 15 (R 15)) 17 (R 17)) 19 (R 19)) RO LL Y ((-100004) : Int32)   ) (cwV 1 hts gX9_copy_X9_finding rfl rfl rfl (by decide +kernel) ⟨Nat.le_of_ble_eq_true rfl, Nat.le_of_ble_eq_true rfl⟩) hK hN hP hD hS hA rfl rfl rfl hl.1 rfl (Nat.le_of_ble_eq_true rfl) dX9_copy_79 ⟨Nat.le_of_ble_eq_true rfl, Nat.le_of_ble_eq_true rfl⟩ (fun r_48 u H locs hw hP hD hS => ?_)
                obtain ⟨w_49, rfl, rfl⟩ := hw
                have hP : va_P D vwCl (CT cy a J (va_up I 10 w_49) O (va_up (va_up (va_up (va_up R 13 (R 13)) 15 (R 15)) 17 (R 17)) 19 (R 19)) RO (LL ++ Y)) H := hP
                have hD : va_D A (CT cy a J (va_up I 10 w_49) O (va_up (va_up (va_up (va_up R 13 (R 13)) 15 (R 15)) 17 (R 17)) 19 (R 19)) RO (LL ++ Y)) := hD
                exact wret_i hx hb hr hlocks (J, (va_up I 10 w_49), O, (va_up (va_up (va_up (va_up R 13 (R 13)) 15 (R 15)) 17 (R 17)) 19 (R 19)), RO, LL, Y) ⟨w_49, (R 13), (R 15), (R 17), (R 19), ⟨(cp_no (V := Vs) (cw3 c_1 c_4 (nb0 (by rw [hj_5]; rfl) hSh.1 c_37) (nb0 (by rw [hj_6]; rfl) hSh.2.2.1 c_40) (by rw [bq (by rw [hj_5]; rfl) hSh.1, bq (by rw [hj_6]; rfl) hSh.2.2.1]; exact c_41)) (by decide)).1, (by rw [(cp_no (cw3 c_1 c_4 (nb0 (by rw [hj_5]; rfl) hSh.1 c_37) (nb0 (by rw [hj_6]; rfl) hSh.2.2.1 c_40) (by rw [bq (by rw [hj_5]; rfl) hSh.1, bq (by rw [hj_6]; rfl) hSh.2.2.1]; exact c_41)) (by decide)).2]; exact hSh)⟩, rfl⟩ hP hD hS dX9_copy_82
            · replace c_40 := bI_t c_40
              refine lv_aload_n hx hb dX9_copy_55 rfl (lv_at hl 2 rfl) ?_
              refine lv_ldcw (v := (-100002)) hx hb hown hw2 dX9_copy_56 ?_
              refine kM_i (As := [.int (-100002)]) (rest := []) (q0 := 0) ⟨hx, hb, hml, hown, hts⟩ (t_X9_finding l D cy a _ J (va_up I 10 (I 10)) O (va_up (va_up (va_up (va_up R 13 (R 13)) 15 (R 15)) 17 (R 17)) 19 (R 19)) RO LL Y ((-100002) : Int32)   ) (cwV 1 hts gX9_copy_X9_finding rfl rfl rfl (by decide +kernel) ⟨Nat.le_of_ble_eq_true rfl, Nat.le_of_ble_eq_true rfl⟩) hK hN hP hD hS hA rfl rfl rfl hl.1 rfl (Nat.le_of_ble_eq_true rfl) dX9_copy_59 ⟨Nat.le_of_ble_eq_true rfl, Nat.le_of_ble_eq_true rfl⟩ (fun r_50 u H locs hw hP hD hS => ?_)
              obtain ⟨w_51, rfl, rfl⟩ := hw
              have hP : va_P D vwCl (CT cy a J (va_up I 10 w_51) O (va_up (va_up (va_up (va_up R 13 (R 13)) 15 (R 15)) 17 (R 17)) 19 (R 19)) RO (LL ++ Y)) H := hP
              have hD : va_D A (CT cy a J (va_up I 10 w_51) O (va_up (va_up (va_up (va_up R 13 (R 13)) 15 (R 15)) 17 (R 17)) 19 (R 19)) RO (LL ++ Y)) := hD
              exact wret_i hx hb hr hlocks (J, (va_up I 10 w_51), O, (va_up (va_up (va_up (va_up R 13 (R 13)) 15 (R 15)) 17 (R 17)) 19 (R 19)), RO, LL, Y) ⟨w_51, (R 13), (R 15), (R 17), (R 19), ⟨(cp_no (V := Vs) (cw2 c_1 c_4 (Or.inr (eb0 (by rw [hj_6]; rfl) hSh.2.2.1 c_40))) (by decide)).1, (by rw [(cp_no (cw2 c_1 c_4 (Or.inr (eb0 (by rw [hj_6]; rfl) hSh.2.2.1 c_40))) (by decide)).2]; exact hSh)⟩, rfl⟩ hP hD hS dX9_copy_62
        · refine wtop_v (y := .ref (a 18)) (by rw [hj_6]; exact congrArg va_rf hRO3) ?_
          refine lv_astore (lv' := [(7, .ref (a 18)), (6, .ref (a 12)), (0, .ref (a 0)), (1, .int x0), (2, .int x1), (3, .int x2), (4, .int x3), (5, .int x4)]) hx hb dX9_copy_37 hl (by decide) rfl (fun ls hl => ?_)
          refine lv_aload hx hb dX9_copy_39 (lv_at hl 1 rfl) ?_
          refine kR_i (As := []) (rest := []) (q0 := 12) ⟨hx, hb, hml, hown, hts⟩ (x_X6_isMissing12 l D cy a _ J (va_up I 10 (I 10)) O (va_up (va_up (va_up (va_up R 13 (R 13)) 15 (R 15)) 17 (R 17)) 19 (R 19)) RO LL Y   ) (cwV 0 hts gX9_copy_X6_isMissing rfl rfl rfl (by decide +kernel) ⟨Nat.le_of_ble_eq_true rfl, Nat.le_of_ble_eq_true rfl⟩) hK hN hP hD rfl rfl rfl hl.1 rfl (Nat.le_of_ble_eq_true rfl) dX9_copy_41 ⟨Nat.le_of_ble_eq_true rfl, Nat.le_of_ble_eq_true rfl⟩ ?_
          refine lv_if_ne (tgt := 55) hx hb dX9_copy_44 (by decide) (fun c_52 => ?_) (fun c_52 => ?_)
          · replace c_52 := bI_t c_52
            refine lv_aload_n hx hb dX9_copy_55 rfl (lv_at hl 2 rfl) ?_
            refine lv_ldcw (v := (-100002)) hx hb hown hw2 dX9_copy_56 ?_
            refine kM_i (As := [.int (-100002)]) (rest := []) (q0 := 0) ⟨hx, hb, hml, hown, hts⟩ (t_X9_finding l D cy a _ J (va_up I 10 (I 10)) O (va_up (va_up (va_up (va_up R 13 (R 13)) 15 (R 15)) 17 (R 17)) 19 (R 19)) RO LL Y ((-100002) : Int32)   ) (cwV 1 hts gX9_copy_X9_finding rfl rfl rfl (by decide +kernel) ⟨Nat.le_of_ble_eq_true rfl, Nat.le_of_ble_eq_true rfl⟩) hK hN hP hD hS hA rfl rfl rfl hl.1 rfl (Nat.le_of_ble_eq_true rfl) dX9_copy_59 ⟨Nat.le_of_ble_eq_true rfl, Nat.le_of_ble_eq_true rfl⟩ (fun r_53 u H locs hw hP hD hS => ?_)
            obtain ⟨w_54, rfl, rfl⟩ := hw
            have hP : va_P D vwCl (CT cy a J (va_up I 10 w_54) O (va_up (va_up (va_up (va_up R 13 (R 13)) 15 (R 15)) 17 (R 17)) 19 (R 19)) RO (LL ++ Y)) H := hP
            have hD : va_D A (CT cy a J (va_up I 10 w_54) O (va_up (va_up (va_up (va_up R 13 (R 13)) 15 (R 15)) 17 (R 17)) 19 (R 19)) RO (LL ++ Y)) := hD
            exact wret_i hx hb hr hlocks (J, (va_up I 10 w_54), O, (va_up (va_up (va_up (va_up R 13 (R 13)) 15 (R 15)) 17 (R 17)) 19 (R 19)), RO, LL, Y) ⟨w_54, (R 13), (R 15), (R 17), (R 19), ⟨(cp_no (V := Vs) (cw2 c_1 c_4 (Or.inl (eb0 (by rw [hj_5]; rfl) hSh.1 c_52))) (by decide)).1, (by rw [(cp_no (cw2 c_1 c_4 (Or.inl (eb0 (by rw [hj_5]; rfl) hSh.1 c_52))) (by decide)).2]; exact hSh)⟩, rfl⟩ hP hD hS dX9_copy_62
          · replace c_52 := bI_f c_52
            refine lv_aload hx hb dX9_copy_47 (lv_at hl 0 rfl) ?_
            refine kR_i (As := []) (rest := []) (q0 := 18) ⟨hx, hb, hml, hown, hts⟩ (x_X6_isMissing18 l D cy a _ J (va_up I 10 (I 10)) O (va_up (va_up (va_up (va_up R 13 (R 13)) 15 (R 15)) 17 (R 17)) 19 (R 19)) RO LL Y   ) (cwV 0 hts gX9_copy_X6_isMissing rfl rfl rfl (by decide +kernel) ⟨Nat.le_of_ble_eq_true rfl, Nat.le_of_ble_eq_true rfl⟩) hK hN hP hD rfl rfl rfl hl.1 rfl (Nat.le_of_ble_eq_true rfl) dX9_copy_49 ⟨Nat.le_of_ble_eq_true rfl, Nat.le_of_ble_eq_true rfl⟩ ?_
            refine lv_if_eq (tgt := 63) hx hb dX9_copy_52 (by decide) (fun c_55 => ?_) (fun c_55 => ?_)
            · replace c_55 := bI_f c_55
              refine lv_aload hx hb dX9_copy_63 (lv_at hl 1 rfl) ?_
              refine va_get (D := D) (ci := 5) (v := .int (I 385)) (C := RX6) (T := TX6) (N := 3) hx hb hts hi6 hown hK hP 12 rfl rfl 1 (by decide) hw3 (fun _ h9 => h9) rfl dX9_copy_65 ?_
              refine lv_aload hx hb dX9_copy_68 (lv_at hl 0 rfl) ?_
              refine va_get (D := D) (ci := 5) (v := .int (I 577)) (C := RX6) (T := TX6) (N := 3) hx hb hts hi6 hown hK hP 18 rfl rfl 1 (by decide) hw3 (fun _ h9 => h9) rfl dX9_copy_70 ?_
              refine lv_icmp_eq (tgt := 83) hx hb dX9_copy_73 (by decide) (fun c_56 => ?_) (fun c_56 => ?_)
              · refine lv_aload hx hb dX9_copy_83 (lv_at hl 1 rfl) ?_
                refine lv_iload_n hx hb dX9_copy_85 rfl (lv_at hl 4 rfl) ?_
                refine lv_iload hx hb dX9_copy_86 (lv_at hl 7 rfl) ?_
                refine kR_i (As := [.int x1, .int x4]) (rest := []) (q0 := 12) ⟨hx, hb, hml, hown, hts⟩ (x_X6_hasRange12 l D cy a _ J (va_up I 10 (I 10)) O (va_up (va_up (va_up (va_up R 13 (R 13)) 15 (R 15)) 17 (R 17)) 19 (R 19)) RO LL Y x1 x4  ) (cwV 2 hts gX9_copy_X6_hasRange rfl rfl rfl (by decide +kernel) ⟨Nat.le_of_ble_eq_true rfl, Nat.le_of_ble_eq_true rfl⟩) hK hN hP hD rfl rfl rfl hl.1 rfl (Nat.le_of_ble_eq_true rfl) dX9_copy_88 ⟨Nat.le_of_ble_eq_true rfl, Nat.le_of_ble_eq_true rfl⟩ ?_
                refine lv_if_eq (tgt := 106) hx hb dX9_copy_91 (by decide) (fun c_57 => ?_) (fun c_57 => ?_)
                · replace c_57 := bI_f c_57
                  refine lv_aload_n hx hb dX9_copy_106 rfl (lv_at hl 2 rfl) ?_
                  refine lv_ldc (v := (-100001)) hx hb hown hw0 dX9_copy_107 ?_
                  refine kM_i (As := [.int (-100001)]) (rest := []) (q0 := 0) ⟨hx, hb, hml, hown, hts⟩ (t_X9_finding l D cy a _ J (va_up I 10 (I 10)) O (va_up (va_up (va_up (va_up R 13 (R 13)) 15 (R 15)) 17 (R 17)) 19 (R 19)) RO LL Y ((-100001) : Int32)   ) (cwV 1 hts gX9_copy_X9_finding rfl rfl rfl (by decide +kernel) ⟨Nat.le_of_ble_eq_true rfl, Nat.le_of_ble_eq_true rfl⟩) hK hN hP hD hS hA rfl rfl rfl hl.1 rfl (Nat.le_of_ble_eq_true rfl) dX9_copy_109 ⟨Nat.le_of_ble_eq_true rfl, Nat.le_of_ble_eq_true rfl⟩ (fun r_58 u H locs hw hP hD hS => ?_)
                  obtain ⟨w_59, rfl, rfl⟩ := hw
                  have hP : va_P D vwCl (CT cy a J (va_up I 10 w_59) O (va_up (va_up (va_up (va_up R 13 (R 13)) 15 (R 15)) 17 (R 17)) 19 (R 19)) RO (LL ++ Y)) H := hP
                  have hD : va_D A (CT cy a J (va_up I 10 w_59) O (va_up (va_up (va_up (va_up R 13 (R 13)) 15 (R 15)) 17 (R 17)) 19 (R 19)) RO (LL ++ Y)) := hD
                  exact wret_i hx hb hr hlocks (J, (va_up I 10 w_59), O, (va_up (va_up (va_up (va_up R 13 (R 13)) 15 (R 15)) 17 (R 17)) 19 (R 19)), RO, LL, Y) ⟨w_59, (R 13), (R 15), (R 17), (R 19), ⟨(cp_no (V := Vs) (cw4 c_1 c_4 (nb0 (by rw [hj_5]; rfl) hSh.1 c_52) (nb0 (by rw [hj_6]; rfl) hSh.2.2.2 c_55) (by rw [bq (by rw [hj_5]; rfl) hSh.1, bq (by rw [hj_6]; rfl) hSh.2.2.2]; exact c_56) (ck_f1 (by rw [hj_5]; rfl) hSh.1 c_57)) (by decide)).1, (by rw [(cp_no (cw4 c_1 c_4 (nb0 (by rw [hj_5]; rfl) hSh.1 c_52) (nb0 (by rw [hj_6]; rfl) hSh.2.2.2 c_55) (by rw [bq (by rw [hj_5]; rfl) hSh.1, bq (by rw [hj_6]; rfl) hSh.2.2.2]; exact c_56) (ck_f1 (by rw [hj_5]; rfl) hSh.1 c_57)) (by decide)).2]; exact hSh)⟩, rfl⟩ hP hD hS dX9_copy_112
                · replace c_57 := bI_t c_57
                  refine lv_aload hx hb dX9_copy_94 (lv_at hl 0 rfl) ?_
                  refine lv_iload hx hb dX9_copy_96 (lv_at hl 6 rfl) ?_
                  refine lv_iload hx hb dX9_copy_98 (lv_at hl 7 rfl) ?_
                  refine kR_i (As := [.int x3, .int x4]) (rest := []) (q0 := 18) ⟨hx, hb, hml, hown, hts⟩ (x_X6_hasRange18 l D cy a _ J (va_up I 10 (I 10)) O (va_up (va_up (va_up (va_up R 13 (R 13)) 15 (R 15)) 17 (R 17)) 19 (R 19)) RO LL Y x3 x4  ) (cwV 2 hts gX9_copy_X6_hasRange rfl rfl rfl (by decide +kernel) ⟨Nat.le_of_ble_eq_true rfl, Nat.le_of_ble_eq_true rfl⟩) hK hN hP hD rfl rfl rfl hl.1 rfl (Nat.le_of_ble_eq_true rfl) dX9_copy_100 ⟨Nat.le_of_ble_eq_true rfl, Nat.le_of_ble_eq_true rfl⟩ ?_
                  refine lv_if_ne (tgt := 113) hx hb dX9_copy_103 (by decide) (fun c_60 => ?_) (fun c_60 => ?_)
                  · replace c_60 := bI_t c_60
                    refine lv_aload hx hb dX9_copy_113 (lv_at hl 1 rfl) ?_
                    refine va_get (D := D) (ci := 5) (v := .ref (a 13)) (C := RX6) (T := TX6) (N := 3) hx hb hts hi6 hown hK hP 12 rfl rfl 0 (by decide) hw4 (fun _ h9 => h9) rfl dX9_copy_115 ?_
                    refine lv_iload_n hx hb dX9_copy_118 rfl (lv_at hl 4 rfl) ?_
                    refine lv_aload hx hb dX9_copy_119 (lv_at hl 0 rfl) ?_
                    refine va_get (D := D) (ci := 5) (v := .ref (a 19)) (C := RX6) (T := TX6) (N := 3) hx hb hts hi6 hown hK hP 18 rfl rfl 0 (by decide) hw4 (fun _ h9 => h9) rfl dX9_copy_121 ?_
                    refine lv_iload hx hb dX9_copy_124 (lv_at hl 6 rfl) ?_
                    refine lv_iload hx hb dX9_copy_126 (lv_at hl 7 rfl) ?_
                    refine va_copyi hx hb (by rw [hml]; exact hl.1.symm) hown hw5 hw6 hw7 hw8 hK hP hD hS 13 19 0 0 rfl rfl rfl rfl rfl (rng_hr hSh.1 c_57).1 (rng_hr hSh.2.2.2 c_60).1 (rng_hr hSh.1 c_57).2.1 (rng_hr hSh.1 c_57).2.2 (rng_hr hSh.2.2.2 c_60).2.2 (fun _ _ => rfl) (Nat.le_of_ble_eq_true rfl) (Nat.le_of_ble_eq_true rfl) dX9_copy_128 (fun H locs hP hD hS => ?_)
                    have hP : va_P D vwCl (CT cy a J (va_up I 10 (I 10)) O (va_up (va_up (va_up (va_up R 13 (R 13)) 15 (R 15)) 17 (R 17)) 19 (va_cpy (R 13) (R 19) x1.toNatClampNeg x3.toNatClampNeg x4.toNatClampNeg)) RO (LL ++ Y)) H := hP
                    have hD : va_D A (CT cy a J (va_up I 10 (I 10)) O (va_up (va_up (va_up (va_up R 13 (R 13)) 15 (R 15)) 17 (R 17)) 19 (va_cpy (R 13) (R 19) x1.toNatClampNeg x3.toNatClampNeg x4.toNatClampNeg)) RO (LL ++ Y)) := hD
                    refine lv_iload hx hb dX9_copy_131 (lv_at hl 7 rfl) ?_
                    exact wret_i hx hb hr hlocks (J, (va_up I 10 (I 10)), O, (va_up (va_up (va_up (va_up R 13 (R 13)) 15 (R 15)) 17 (R 17)) 19 (va_cpy (R 13) (R 19) x1.toNatClampNeg x3.toNatClampNeg x4.toNatClampNeg)), RO, LL, Y) ⟨(I 10), (R 13), (R 15), (R 17), (va_cpy (R 13) (R 19) x1.toNatClampNeg x3.toNatClampNeg x4.toNatClampNeg), ⟨(cp_yes (V := Vs) (cw5 c_1 c_4 (nb0 (by rw [hj_5]; rfl) hSh.1 c_52) (nb0 (by rw [hj_6]; rfl) hSh.2.2.2 c_55) (by rw [bq (by rw [hj_5]; rfl) hSh.1, bq (by rw [hj_6]; rfl) hSh.2.2.2]; exact c_56) (ck_t (by rw [hj_5]; rfl) hSh.1 (by rw [hj_6]; rfl) hSh.2.2.2 c_57 c_60))).1, (by rw [(cp_yes (cw5 c_1 c_4 (nb0 (by rw [hj_5]; rfl) hSh.1 c_52) (nb0 (by rw [hj_6]; rfl) hSh.2.2.2 c_55) (by rw [bq (by rw [hj_5]; rfl) hSh.1, bq (by rw [hj_6]; rfl) hSh.2.2.2]; exact c_56) (ck_t (by rw [hj_5]; rfl) hSh.1 (by rw [hj_6]; rfl) hSh.2.2.2 c_57 c_60))).2]; exact RCs_v3 (by rw [hj_6]; rfl) hSh (ck_v (by rw [hj_5]; rfl) hSh.1 (by rw [hj_6]; rfl) hSh.2.2.2 c_57 c_60))⟩, rfl⟩ hP hD hS dX9_copy_133
                  · replace c_60 := bI_f c_60
                    refine lv_aload_n hx hb dX9_copy_106 rfl (lv_at hl 2 rfl) ?_
                    refine lv_ldc (v := (-100001)) hx hb hown hw0 dX9_copy_107 ?_
                    refine kM_i (As := [.int (-100001)]) (rest := []) (q0 := 0) ⟨hx, hb, hml, hown, hts⟩ (t_X9_finding l D cy a _ J (va_up I 10 (I 10)) O (va_up (va_up (va_up (va_up R 13 (R 13)) 15 (R 15)) 17 (R 17)) 19 (R 19)) RO LL Y ((-100001) : Int32)   ) (cwV 1 hts gX9_copy_X9_finding rfl rfl rfl (by decide +kernel) ⟨Nat.le_of_ble_eq_true rfl, Nat.le_of_ble_eq_true rfl⟩) hK hN hP hD hS hA rfl rfl rfl hl.1 rfl (Nat.le_of_ble_eq_true rfl) dX9_copy_109 ⟨Nat.le_of_ble_eq_true rfl, Nat.le_of_ble_eq_true rfl⟩ (fun r_61 u H locs hw hP hD hS => ?_)
                    obtain ⟨w_62, rfl, rfl⟩ := hw
                    have hP : va_P D vwCl (CT cy a J (va_up I 10 w_62) O (va_up (va_up (va_up (va_up R 13 (R 13)) 15 (R 15)) 17 (R 17)) 19 (R 19)) RO (LL ++ Y)) H := hP
                    have hD : va_D A (CT cy a J (va_up I 10 w_62) O (va_up (va_up (va_up (va_up R 13 (R 13)) 15 (R 15)) 17 (R 17)) 19 (R 19)) RO (LL ++ Y)) := hD
                    exact wret_i hx hb hr hlocks (J, (va_up I 10 w_62), O, (va_up (va_up (va_up (va_up R 13 (R 13)) 15 (R 15)) 17 (R 17)) 19 (R 19)), RO, LL, Y) ⟨w_62, (R 13), (R 15), (R 17), (R 19), ⟨(cp_no (V := Vs) (cw4 c_1 c_4 (nb0 (by rw [hj_5]; rfl) hSh.1 c_52) (nb0 (by rw [hj_6]; rfl) hSh.2.2.2 c_55) (by rw [bq (by rw [hj_5]; rfl) hSh.1, bq (by rw [hj_6]; rfl) hSh.2.2.2]; exact c_56) (ck_f2 (by rw [hj_6]; rfl) hSh.2.2.2 c_60)) (by decide)).1, (by rw [(cp_no (cw4 c_1 c_4 (nb0 (by rw [hj_5]; rfl) hSh.1 c_52) (nb0 (by rw [hj_6]; rfl) hSh.2.2.2 c_55) (by rw [bq (by rw [hj_5]; rfl) hSh.1, bq (by rw [hj_6]; rfl) hSh.2.2.2]; exact c_56) (ck_f2 (by rw [hj_6]; rfl) hSh.2.2.2 c_60)) (by decide)).2]; exact hSh)⟩, rfl⟩ hP hD hS dX9_copy_112
              · refine lv_aload_n hx hb dX9_copy_76 rfl (lv_at hl 2 rfl) ?_
                refine lv_ldc (v := (-100004)) hx hb hown hw9 dX9_copy_77 ?_
                refine kM_i (As := [.int (-100004)]) (rest := []) (q0 := 0) ⟨hx, hb, hml, hown, hts⟩ (t_X9_finding l D cy a _ J (va_up I 10 (I 10)) O (va_up (va_up (va_up (va_up R 13 (R 13)) 15 (R 15)) 17 (R 17)) 19 (R 19)) RO LL Y ((-100004) : Int32)   ) (cwV 1 hts gX9_copy_X9_finding rfl rfl rfl (by decide +kernel) ⟨Nat.le_of_ble_eq_true rfl, Nat.le_of_ble_eq_true rfl⟩) hK hN hP hD hS hA rfl rfl rfl hl.1 rfl (Nat.le_of_ble_eq_true rfl) dX9_copy_79 ⟨Nat.le_of_ble_eq_true rfl, Nat.le_of_ble_eq_true rfl⟩ (fun r_63 u H locs hw hP hD hS => ?_)
                obtain ⟨w_64, rfl, rfl⟩ := hw
                have hP : va_P D vwCl (CT cy a J (va_up I 10 w_64) O (va_up (va_up (va_up (va_up R 13 (R 13)) 15 (R 15)) 17 (R 17)) 19 (R 19)) RO (LL ++ Y)) H := hP
                have hD : va_D A (CT cy a J (va_up I 10 w_64) O (va_up (va_up (va_up (va_up R 13 (R 13)) 15 (R 15)) 17 (R 17)) 19 (R 19)) RO (LL ++ Y)) := hD
                exact wret_i hx hb hr hlocks (J, (va_up I 10 w_64), O, (va_up (va_up (va_up (va_up R 13 (R 13)) 15 (R 15)) 17 (R 17)) 19 (R 19)), RO, LL, Y) ⟨w_64, (R 13), (R 15), (R 17), (R 19), ⟨(cp_no (V := Vs) (cw3 c_1 c_4 (nb0 (by rw [hj_5]; rfl) hSh.1 c_52) (nb0 (by rw [hj_6]; rfl) hSh.2.2.2 c_55) (by rw [bq (by rw [hj_5]; rfl) hSh.1, bq (by rw [hj_6]; rfl) hSh.2.2.2]; exact c_56)) (by decide)).1, (by rw [(cp_no (cw3 c_1 c_4 (nb0 (by rw [hj_5]; rfl) hSh.1 c_52) (nb0 (by rw [hj_6]; rfl) hSh.2.2.2 c_55) (by rw [bq (by rw [hj_5]; rfl) hSh.1, bq (by rw [hj_6]; rfl) hSh.2.2.2]; exact c_56)) (by decide)).2]; exact hSh)⟩, rfl⟩ hP hD hS dX9_copy_82
            · replace c_55 := bI_t c_55
              refine lv_aload_n hx hb dX9_copy_55 rfl (lv_at hl 2 rfl) ?_
              refine lv_ldcw (v := (-100002)) hx hb hown hw2 dX9_copy_56 ?_
              refine kM_i (As := [.int (-100002)]) (rest := []) (q0 := 0) ⟨hx, hb, hml, hown, hts⟩ (t_X9_finding l D cy a _ J (va_up I 10 (I 10)) O (va_up (va_up (va_up (va_up R 13 (R 13)) 15 (R 15)) 17 (R 17)) 19 (R 19)) RO LL Y ((-100002) : Int32)   ) (cwV 1 hts gX9_copy_X9_finding rfl rfl rfl (by decide +kernel) ⟨Nat.le_of_ble_eq_true rfl, Nat.le_of_ble_eq_true rfl⟩) hK hN hP hD hS hA rfl rfl rfl hl.1 rfl (Nat.le_of_ble_eq_true rfl) dX9_copy_59 ⟨Nat.le_of_ble_eq_true rfl, Nat.le_of_ble_eq_true rfl⟩ (fun r_65 u H locs hw hP hD hS => ?_)
              obtain ⟨w_66, rfl, rfl⟩ := hw
              have hP : va_P D vwCl (CT cy a J (va_up I 10 w_66) O (va_up (va_up (va_up (va_up R 13 (R 13)) 15 (R 15)) 17 (R 17)) 19 (R 19)) RO (LL ++ Y)) H := hP
              have hD : va_D A (CT cy a J (va_up I 10 w_66) O (va_up (va_up (va_up (va_up R 13 (R 13)) 15 (R 15)) 17 (R 17)) 19 (R 19)) RO (LL ++ Y)) := hD
              exact wret_i hx hb hr hlocks (J, (va_up I 10 w_66), O, (va_up (va_up (va_up (va_up R 13 (R 13)) 15 (R 15)) 17 (R 17)) 19 (R 19)), RO, LL, Y) ⟨w_66, (R 13), (R 15), (R 17), (R 19), ⟨(cp_no (V := Vs) (cw2 c_1 c_4 (Or.inr (eb0 (by rw [hj_6]; rfl) hSh.2.2.2 c_55))) (by decide)).1, (by rw [(cp_no (cw2 c_1 c_4 (Or.inr (eb0 (by rw [hj_6]; rfl) hSh.2.2.2 c_55))) (by decide)).2]; exact hSh)⟩, rfl⟩ hP hD hS dX9_copy_62
      · refine wtop_v (y := .ref (a 14)) (by rw [hj_5]; exact congrArg va_rf hRO1) ?_
        refine lv_astore (lv' := [(6, .ref (a 14)), (0, .ref (a 0)), (1, .int x0), (2, .int x1), (3, .int x2), (4, .int x3), (5, .int x4)]) hx hb dX9_copy_29 hl (by decide) rfl (fun ls hl => ?_)
        refine lv_aload_n hx hb dX9_copy_31 rfl (lv_at hl 1 rfl) ?_
        refine va_get (D := D) (ci := 8) (v := .ref (a 1)) (C := RX9) (T := TX9) (N := 11) hx hb hts hi9 hown hK hP 0 rfl rfl 0 (by decide) hw1 (fun _ h9 => h9) rfl dX9_copy_32 ?_
        refine lv_iload_n hx hb dX9_copy_35 rfl (lv_at hl 4 rfl) ?_
        refine va_aldq hx hb hK hP 1 4 rfl rfl (within_in4 c_4) dX9_copy_36 ?_
        rcases in4 (within_in4 c_4) with hj_67 | hj_67 | hj_67 | hj_67
        · refine wtop_v (y := .ref (a 12)) (by rw [hj_67]; exact congrArg va_rf hRO0) ?_
          refine lv_astore (lv' := [(7, .ref (a 12)), (6, .ref (a 14)), (0, .ref (a 0)), (1, .int x0), (2, .int x1), (3, .int x2), (4, .int x3), (5, .int x4)]) hx hb dX9_copy_37 hl (by decide) rfl (fun ls hl => ?_)
          refine lv_aload hx hb dX9_copy_39 (lv_at hl 1 rfl) ?_
          refine kR_i (As := []) (rest := []) (q0 := 14) ⟨hx, hb, hml, hown, hts⟩ (x_X6_isMissing14 l D cy a _ J (va_up I 10 (I 10)) O (va_up (va_up (va_up (va_up R 13 (R 13)) 15 (R 15)) 17 (R 17)) 19 (R 19)) RO LL Y   ) (cwV 0 hts gX9_copy_X6_isMissing rfl rfl rfl (by decide +kernel) ⟨Nat.le_of_ble_eq_true rfl, Nat.le_of_ble_eq_true rfl⟩) hK hN hP hD rfl rfl rfl hl.1 rfl (Nat.le_of_ble_eq_true rfl) dX9_copy_41 ⟨Nat.le_of_ble_eq_true rfl, Nat.le_of_ble_eq_true rfl⟩ ?_
          refine lv_if_ne (tgt := 55) hx hb dX9_copy_44 (by decide) (fun c_68 => ?_) (fun c_68 => ?_)
          · replace c_68 := bI_t c_68
            refine lv_aload_n hx hb dX9_copy_55 rfl (lv_at hl 2 rfl) ?_
            refine lv_ldcw (v := (-100002)) hx hb hown hw2 dX9_copy_56 ?_
            refine kM_i (As := [.int (-100002)]) (rest := []) (q0 := 0) ⟨hx, hb, hml, hown, hts⟩ (t_X9_finding l D cy a _ J (va_up I 10 (I 10)) O (va_up (va_up (va_up (va_up R 13 (R 13)) 15 (R 15)) 17 (R 17)) 19 (R 19)) RO LL Y ((-100002) : Int32)   ) (cwV 1 hts gX9_copy_X9_finding rfl rfl rfl (by decide +kernel) ⟨Nat.le_of_ble_eq_true rfl, Nat.le_of_ble_eq_true rfl⟩) hK hN hP hD hS hA rfl rfl rfl hl.1 rfl (Nat.le_of_ble_eq_true rfl) dX9_copy_59 ⟨Nat.le_of_ble_eq_true rfl, Nat.le_of_ble_eq_true rfl⟩ (fun r_69 u H locs hw hP hD hS => ?_)
            obtain ⟨w_70, rfl, rfl⟩ := hw
            have hP : va_P D vwCl (CT cy a J (va_up I 10 w_70) O (va_up (va_up (va_up (va_up R 13 (R 13)) 15 (R 15)) 17 (R 17)) 19 (R 19)) RO (LL ++ Y)) H := hP
            have hD : va_D A (CT cy a J (va_up I 10 w_70) O (va_up (va_up (va_up (va_up R 13 (R 13)) 15 (R 15)) 17 (R 17)) 19 (R 19)) RO (LL ++ Y)) := hD
            exact wret_i hx hb hr hlocks (J, (va_up I 10 w_70), O, (va_up (va_up (va_up (va_up R 13 (R 13)) 15 (R 15)) 17 (R 17)) 19 (R 19)), RO, LL, Y) ⟨w_70, (R 13), (R 15), (R 17), (R 19), ⟨(cp_no (V := Vs) (cw2 c_1 c_4 (Or.inl (eb0 (by rw [hj_5]; rfl) hSh.2.1 c_68))) (by decide)).1, (by rw [(cp_no (cw2 c_1 c_4 (Or.inl (eb0 (by rw [hj_5]; rfl) hSh.2.1 c_68))) (by decide)).2]; exact hSh)⟩, rfl⟩ hP hD hS dX9_copy_62
          · replace c_68 := bI_f c_68
            refine lv_aload hx hb dX9_copy_47 (lv_at hl 0 rfl) ?_
            refine kR_i (As := []) (rest := []) (q0 := 12) ⟨hx, hb, hml, hown, hts⟩ (x_X6_isMissing12 l D cy a _ J (va_up I 10 (I 10)) O (va_up (va_up (va_up (va_up R 13 (R 13)) 15 (R 15)) 17 (R 17)) 19 (R 19)) RO LL Y   ) (cwV 0 hts gX9_copy_X6_isMissing rfl rfl rfl (by decide +kernel) ⟨Nat.le_of_ble_eq_true rfl, Nat.le_of_ble_eq_true rfl⟩) hK hN hP hD rfl rfl rfl hl.1 rfl (Nat.le_of_ble_eq_true rfl) dX9_copy_49 ⟨Nat.le_of_ble_eq_true rfl, Nat.le_of_ble_eq_true rfl⟩ ?_
            refine lv_if_eq (tgt := 63) hx hb dX9_copy_52 (by decide) (fun c_71 => ?_) (fun c_71 => ?_)
            · replace c_71 := bI_f c_71
              refine lv_aload hx hb dX9_copy_63 (lv_at hl 1 rfl) ?_
              refine va_get (D := D) (ci := 5) (v := .int (I 449)) (C := RX6) (T := TX6) (N := 3) hx hb hts hi6 hown hK hP 14 rfl rfl 1 (by decide) hw3 (fun _ h9 => h9) rfl dX9_copy_65 ?_
              refine lv_aload hx hb dX9_copy_68 (lv_at hl 0 rfl) ?_
              refine va_get (D := D) (ci := 5) (v := .int (I 385)) (C := RX6) (T := TX6) (N := 3) hx hb hts hi6 hown hK hP 12 rfl rfl 1 (by decide) hw3 (fun _ h9 => h9) rfl dX9_copy_70 ?_
              refine lv_icmp_eq (tgt := 83) hx hb dX9_copy_73 (by decide) (fun c_72 => ?_) (fun c_72 => ?_)
              · refine lv_aload hx hb dX9_copy_83 (lv_at hl 1 rfl) ?_
                refine lv_iload_n hx hb dX9_copy_85 rfl (lv_at hl 4 rfl) ?_
                refine lv_iload hx hb dX9_copy_86 (lv_at hl 7 rfl) ?_
                refine kR_i (As := [.int x1, .int x4]) (rest := []) (q0 := 14) ⟨hx, hb, hml, hown, hts⟩ (x_X6_hasRange14 l D cy a _ J (va_up I 10 (I 10)) O (va_up (va_up (va_up (va_up R 13 (R 13)) 15 (R 15)) 17 (R 17)) 19 (R 19)) RO LL Y x1 x4  ) (cwV 2 hts gX9_copy_X6_hasRange rfl rfl rfl (by decide +kernel) ⟨Nat.le_of_ble_eq_true rfl, Nat.le_of_ble_eq_true rfl⟩) hK hN hP hD rfl rfl rfl hl.1 rfl (Nat.le_of_ble_eq_true rfl) dX9_copy_88 ⟨Nat.le_of_ble_eq_true rfl, Nat.le_of_ble_eq_true rfl⟩ ?_
                refine lv_if_eq (tgt := 106) hx hb dX9_copy_91 (by decide) (fun c_73 => ?_) (fun c_73 => ?_)
                · replace c_73 := bI_f c_73
                  refine lv_aload_n hx hb dX9_copy_106 rfl (lv_at hl 2 rfl) ?_
                  refine lv_ldc (v := (-100001)) hx hb hown hw0 dX9_copy_107 ?_
                  refine kM_i (As := [.int (-100001)]) (rest := []) (q0 := 0) ⟨hx, hb, hml, hown, hts⟩ (t_X9_finding l D cy a _ J (va_up I 10 (I 10)) O (va_up (va_up (va_up (va_up R 13 (R 13)) 15 (R 15)) 17 (R 17)) 19 (R 19)) RO LL Y ((-100001) : Int32)   ) (cwV 1 hts gX9_copy_X9_finding rfl rfl rfl (by decide +kernel) ⟨Nat.le_of_ble_eq_true rfl, Nat.le_of_ble_eq_true rfl⟩) hK hN hP hD hS hA rfl rfl rfl hl.1 rfl (Nat.le_of_ble_eq_true rfl) dX9_copy_109 ⟨Nat.le_of_ble_eq_true rfl, Nat.le_of_ble_eq_true rfl⟩ (fun r_74 u H locs hw hP hD hS => ?_)
                  obtain ⟨w_75, rfl, rfl⟩ := hw
                  have hP : va_P D vwCl (CT cy a J (va_up I 10 w_75) O (va_up (va_up (va_up (va_up R 13 (R 13)) 15 (R 15)) 17 (R 17)) 19 (R 19)) RO (LL ++ Y)) H := hP
                  have hD : va_D A (CT cy a J (va_up I 10 w_75) O (va_up (va_up (va_up (va_up R 13 (R 13)) 15 (R 15)) 17 (R 17)) 19 (R 19)) RO (LL ++ Y)) := hD
                  exact wret_i hx hb hr hlocks (J, (va_up I 10 w_75), O, (va_up (va_up (va_up (va_up R 13 (R 13)) 15 (R 15)) 17 (R 17)) 19 (R 19)), RO, LL, Y) ⟨w_75, (R 13), (R 15), (R 17), (R 19), ⟨(cp_no (V := Vs) (cw4 c_1 c_4 (nb0 (by rw [hj_5]; rfl) hSh.2.1 c_68) (nb0 (by rw [hj_67]; rfl) hSh.1 c_71) (by rw [bq (by rw [hj_5]; rfl) hSh.2.1, bq (by rw [hj_67]; rfl) hSh.1]; exact c_72) (ck_f1 (by rw [hj_5]; rfl) hSh.2.1 c_73)) (by decide)).1, (by rw [(cp_no (cw4 c_1 c_4 (nb0 (by rw [hj_5]; rfl) hSh.2.1 c_68) (nb0 (by rw [hj_67]; rfl) hSh.1 c_71) (by rw [bq (by rw [hj_5]; rfl) hSh.2.1, bq (by rw [hj_67]; rfl) hSh.1]; exact c_72) (ck_f1 (by rw [hj_5]; rfl) hSh.2.1 c_73)) (by decide)).2]; exact hSh)⟩, rfl⟩ hP hD hS dX9_copy_112
                · replace c_73 := bI_t c_73
                  refine lv_aload hx hb dX9_copy_94 (lv_at hl 0 rfl) ?_
                  refine lv_iload hx hb dX9_copy_96 (lv_at hl 6 rfl) ?_
                  refine lv_iload hx hb dX9_copy_98 (lv_at hl 7 rfl) ?_
                  refine kR_i (As := [.int x3, .int x4]) (rest := []) (q0 := 12) ⟨hx, hb, hml, hown, hts⟩ (x_X6_hasRange12 l D cy a _ J (va_up I 10 (I 10)) O (va_up (va_up (va_up (va_up R 13 (R 13)) 15 (R 15)) 17 (R 17)) 19 (R 19)) RO LL Y x3 x4  ) (cwV 2 hts gX9_copy_X6_hasRange rfl rfl rfl (by decide +kernel) ⟨Nat.le_of_ble_eq_true rfl, Nat.le_of_ble_eq_true rfl⟩) hK hN hP hD rfl rfl rfl hl.1 rfl (Nat.le_of_ble_eq_true rfl) dX9_copy_100 ⟨Nat.le_of_ble_eq_true rfl, Nat.le_of_ble_eq_true rfl⟩ ?_
                  refine lv_if_ne (tgt := 113) hx hb dX9_copy_103 (by decide) (fun c_76 => ?_) (fun c_76 => ?_)
                  · replace c_76 := bI_t c_76
                    refine lv_aload hx hb dX9_copy_113 (lv_at hl 1 rfl) ?_
                    refine va_get (D := D) (ci := 5) (v := .ref (a 15)) (C := RX6) (T := TX6) (N := 3) hx hb hts hi6 hown hK hP 14 rfl rfl 0 (by decide) hw4 (fun _ h9 => h9) rfl dX9_copy_115 ?_
                    refine lv_iload_n hx hb dX9_copy_118 rfl (lv_at hl 4 rfl) ?_
                    refine lv_aload hx hb dX9_copy_119 (lv_at hl 0 rfl) ?_
                    refine va_get (D := D) (ci := 5) (v := .ref (a 13)) (C := RX6) (T := TX6) (N := 3) hx hb hts hi6 hown hK hP 12 rfl rfl 0 (by decide) hw4 (fun _ h9 => h9) rfl dX9_copy_121 ?_
                    refine lv_iload hx hb dX9_copy_124 (lv_at hl 6 rfl) ?_
                    refine lv_iload hx hb dX9_copy_126 (lv_at hl 7 rfl) ?_
                    refine va_copyi hx hb (by rw [hml]; exact hl.1.symm) hown hw5 hw6 hw7 hw8 hK hP hD hS 15 13 0 0 rfl rfl rfl rfl rfl (rng_hr hSh.2.1 c_73).1 (rng_hr hSh.1 c_76).1 (rng_hr hSh.2.1 c_73).2.1 (rng_hr hSh.2.1 c_73).2.2 (rng_hr hSh.1 c_76).2.2 (fun _ _ => rfl) (Nat.le_of_ble_eq_true rfl) (Nat.le_of_ble_eq_true rfl) dX9_copy_128 (fun H locs hP hD hS => ?_)
                    have hP : va_P D vwCl (CT cy a J (va_up I 10 (I 10)) O (va_up (va_up (va_up (va_up R 13 (va_cpy (R 15) (R 13) x1.toNatClampNeg x3.toNatClampNeg x4.toNatClampNeg)) 15 (R 15)) 17 (R 17)) 19 (R 19)) RO (LL ++ Y)) H := hP
                    have hD : va_D A (CT cy a J (va_up I 10 (I 10)) O (va_up (va_up (va_up (va_up R 13 (va_cpy (R 15) (R 13) x1.toNatClampNeg x3.toNatClampNeg x4.toNatClampNeg)) 15 (R 15)) 17 (R 17)) 19 (R 19)) RO (LL ++ Y)) := hD
                    refine lv_iload hx hb dX9_copy_131 (lv_at hl 7 rfl) ?_
                    exact wret_i hx hb hr hlocks (J, (va_up I 10 (I 10)), O, (va_up (va_up (va_up (va_up R 13 (va_cpy (R 15) (R 13) x1.toNatClampNeg x3.toNatClampNeg x4.toNatClampNeg)) 15 (R 15)) 17 (R 17)) 19 (R 19)), RO, LL, Y) ⟨(I 10), (va_cpy (R 15) (R 13) x1.toNatClampNeg x3.toNatClampNeg x4.toNatClampNeg), (R 15), (R 17), (R 19), ⟨(cp_yes (V := Vs) (cw5 c_1 c_4 (nb0 (by rw [hj_5]; rfl) hSh.2.1 c_68) (nb0 (by rw [hj_67]; rfl) hSh.1 c_71) (by rw [bq (by rw [hj_5]; rfl) hSh.2.1, bq (by rw [hj_67]; rfl) hSh.1]; exact c_72) (ck_t (by rw [hj_5]; rfl) hSh.2.1 (by rw [hj_67]; rfl) hSh.1 c_73 c_76))).1, (by rw [(cp_yes (cw5 c_1 c_4 (nb0 (by rw [hj_5]; rfl) hSh.2.1 c_68) (nb0 (by rw [hj_67]; rfl) hSh.1 c_71) (by rw [bq (by rw [hj_5]; rfl) hSh.2.1, bq (by rw [hj_67]; rfl) hSh.1]; exact c_72) (ck_t (by rw [hj_5]; rfl) hSh.2.1 (by rw [hj_67]; rfl) hSh.1 c_73 c_76))).2]; exact RCs_v0 (by rw [hj_67]; rfl) hSh (ck_v (by rw [hj_5]; rfl) hSh.2.1 (by rw [hj_67]; rfl) hSh.1 c_73 c_76))⟩, rfl⟩ hP hD hS dX9_copy_133
                  · replace c_76 := bI_f c_76
                    refine lv_aload_n hx hb dX9_copy_106 rfl (lv_at hl 2 rfl) ?_
                    refine lv_ldc (v := (-100001)) hx hb hown hw0 dX9_copy_107 ?_
                    refine kM_i (As := [.int (-100001)]) (rest := []) (q0 := 0) ⟨hx, hb, hml, hown, hts⟩ (t_X9_finding l D cy a _ J (va_up I 10 (I 10)) O (va_up (va_up (va_up (va_up R 13 (R 13)) 15 (R 15)) 17 (R 17)) 19 (R 19)) RO LL Y ((-100001) : Int32)   ) (cwV 1 hts gX9_copy_X9_finding rfl rfl rfl (by decide +kernel) ⟨Nat.le_of_ble_eq_true rfl, Nat.le_of_ble_eq_true rfl⟩) hK hN hP hD hS hA rfl rfl rfl hl.1 rfl (Nat.le_of_ble_eq_true rfl) dX9_copy_109 ⟨Nat.le_of_ble_eq_true rfl, Nat.le_of_ble_eq_true rfl⟩ (fun r_77 u H locs hw hP hD hS => ?_)
                    obtain ⟨w_78, rfl, rfl⟩ := hw
                    have hP : va_P D vwCl (CT cy a J (va_up I 10 w_78) O (va_up (va_up (va_up (va_up R 13 (R 13)) 15 (R 15)) 17 (R 17)) 19 (R 19)) RO (LL ++ Y)) H := hP
                    have hD : va_D A (CT cy a J (va_up I 10 w_78) O (va_up (va_up (va_up (va_up R 13 (R 13)) 15 (R 15)) 17 (R 17)) 19 (R 19)) RO (LL ++ Y)) := hD
                    exact wret_i hx hb hr hlocks (J, (va_up I 10 w_78), O, (va_up (va_up (va_up (va_up R 13 (R 13)) 15 (R 15)) 17 (R 17)) 19 (R 19)), RO, LL, Y) ⟨w_78, (R 13), (R 15), (R 17), (R 19), ⟨(cp_no (V := Vs) (cw4 c_1 c_4 (nb0 (by rw [hj_5]; rfl) hSh.2.1 c_68) (nb0 (by rw [hj_67]; rfl) hSh.1 c_71) (by rw [bq (by rw [hj_5]; rfl) hSh.2.1, bq (by rw [hj_67]; rfl) hSh.1]; exact c_72) (ck_f2 (by rw [hj_67]; rfl) hSh.1 c_76)) (by decide)).1, (by rw [(cp_no (cw4 c_1 c_4 (nb0 (by rw [hj_5]; rfl) hSh.2.1 c_68) (nb0 (by rw [hj_67]; rfl) hSh.1 c_71) (by rw [bq (by rw [hj_5]; rfl) hSh.2.1, bq (by rw [hj_67]; rfl) hSh.1]; exact c_72) (ck_f2 (by rw [hj_67]; rfl) hSh.1 c_76)) (by decide)).2]; exact hSh)⟩, rfl⟩ hP hD hS dX9_copy_112
              · refine lv_aload_n hx hb dX9_copy_76 rfl (lv_at hl 2 rfl) ?_
                refine lv_ldc (v := (-100004)) hx hb hown hw9 dX9_copy_77 ?_
                refine kM_i (As := [.int (-100004)]) (rest := []) (q0 := 0) ⟨hx, hb, hml, hown, hts⟩ (t_X9_finding l D cy a _ J (va_up I 10 (I 10)) O (va_up (va_up (va_up (va_up R 13 (R 13)) 15 (R 15)) 17 (R 17)) 19 (R 19)) RO LL Y ((-100004) : Int32)   ) (cwV 1 hts gX9_copy_X9_finding rfl rfl rfl (by decide +kernel) ⟨Nat.le_of_ble_eq_true rfl, Nat.le_of_ble_eq_true rfl⟩) hK hN hP hD hS hA rfl rfl rfl hl.1 rfl (Nat.le_of_ble_eq_true rfl) dX9_copy_79 ⟨Nat.le_of_ble_eq_true rfl, Nat.le_of_ble_eq_true rfl⟩ (fun r_79 u H locs hw hP hD hS => ?_)
                obtain ⟨w_80, rfl, rfl⟩ := hw
                have hP : va_P D vwCl (CT cy a J (va_up I 10 w_80) O (va_up (va_up (va_up (va_up R 13 (R 13)) 15 (R 15)) 17 (R 17)) 19 (R 19)) RO (LL ++ Y)) H := hP
                have hD : va_D A (CT cy a J (va_up I 10 w_80) O (va_up (va_up (va_up (va_up R 13 (R 13)) 15 (R 15)) 17 (R 17)) 19 (R 19)) RO (LL ++ Y)) := hD
                exact wret_i hx hb hr hlocks (J, (va_up I 10 w_80), O, (va_up (va_up (va_up (va_up R 13 (R 13)) 15 (R 15)) 17 (R 17)) 19 (R 19)), RO, LL, Y) ⟨w_80, (R 13), (R 15), (R 17), (R 19), ⟨(cp_no (V := Vs) (cw3 c_1 c_4 (nb0 (by rw [hj_5]; rfl) hSh.2.1 c_68) (nb0 (by rw [hj_67]; rfl) hSh.1 c_71) (by rw [bq (by rw [hj_5]; rfl) hSh.2.1, bq (by rw [hj_67]; rfl) hSh.1]; exact c_72)) (by decide)).1, (by rw [(cp_no (cw3 c_1 c_4 (nb0 (by rw [hj_5]; rfl) hSh.2.1 c_68) (nb0 (by rw [hj_67]; rfl) hSh.1 c_71) (by rw [bq (by rw [hj_5]; rfl) hSh.2.1, bq (by rw [hj_67]; rfl) hSh.1]; exact c_72)) (by decide)).2]; exact hSh)⟩, rfl⟩ hP hD hS dX9_copy_82
            · replace c_71 := bI_t c_71
              refine lv_aload_n hx hb dX9_copy_55 rfl (lv_at hl 2 rfl) ?_
              refine lv_ldcw (v := (-100002)) hx hb hown hw2 dX9_copy_56 ?_
              refine kM_i (As := [.int (-100002)]) (rest := []) (q0 := 0) ⟨hx, hb, hml, hown, hts⟩ (t_X9_finding l D cy a _ J (va_up I 10 (I 10)) O (va_up (va_up (va_up (va_up R 13 (R 13)) 15 (R 15)) 17 (R 17)) 19 (R 19)) RO LL Y ((-100002) : Int32)   ) (cwV 1 hts gX9_copy_X9_finding rfl rfl rfl (by decide +kernel) ⟨Nat.le_of_ble_eq_true rfl, Nat.le_of_ble_eq_true rfl⟩) hK hN hP hD hS hA rfl rfl rfl hl.1 rfl (Nat.le_of_ble_eq_true rfl) dX9_copy_59 ⟨Nat.le_of_ble_eq_true rfl, Nat.le_of_ble_eq_true rfl⟩ (fun r_81 u H locs hw hP hD hS => ?_)
              obtain ⟨w_82, rfl, rfl⟩ := hw
              have hP : va_P D vwCl (CT cy a J (va_up I 10 w_82) O (va_up (va_up (va_up (va_up R 13 (R 13)) 15 (R 15)) 17 (R 17)) 19 (R 19)) RO (LL ++ Y)) H := hP
              have hD : va_D A (CT cy a J (va_up I 10 w_82) O (va_up (va_up (va_up (va_up R 13 (R 13)) 15 (R 15)) 17 (R 17)) 19 (R 19)) RO (LL ++ Y)) := hD
              exact wret_i hx hb hr hlocks (J, (va_up I 10 w_82), O, (va_up (va_up (va_up (va_up R 13 (R 13)) 15 (R 15)) 17 (R 17)) 19 (R 19)), RO, LL, Y) ⟨w_82, (R 13), (R 15), (R 17), (R 19), ⟨(cp_no (V := Vs) (cw2 c_1 c_4 (Or.inr (eb0 (by rw [hj_67]; rfl) hSh.1 c_71))) (by decide)).1, (by rw [(cp_no (cw2 c_1 c_4 (Or.inr (eb0 (by rw [hj_67]; rfl) hSh.1 c_71))) (by decide)).2]; exact hSh)⟩, rfl⟩ hP hD hS dX9_copy_62
        · refine wtop_v (y := .ref (a 14)) (by rw [hj_67]; exact congrArg va_rf hRO1) ?_
          refine lv_astore (lv' := [(7, .ref (a 14)), (6, .ref (a 14)), (0, .ref (a 0)), (1, .int x0), (2, .int x1), (3, .int x2), (4, .int x3), (5, .int x4)]) hx hb dX9_copy_37 hl (by decide) rfl (fun ls hl => ?_)
          refine lv_aload hx hb dX9_copy_39 (lv_at hl 1 rfl) ?_
          refine kR_i (As := []) (rest := []) (q0 := 14) ⟨hx, hb, hml, hown, hts⟩ (x_X6_isMissing14 l D cy a _ J (va_up I 10 (I 10)) O (va_up (va_up (va_up (va_up R 13 (R 13)) 15 (R 15)) 17 (R 17)) 19 (R 19)) RO LL Y   ) (cwV 0 hts gX9_copy_X6_isMissing rfl rfl rfl (by decide +kernel) ⟨Nat.le_of_ble_eq_true rfl, Nat.le_of_ble_eq_true rfl⟩) hK hN hP hD rfl rfl rfl hl.1 rfl (Nat.le_of_ble_eq_true rfl) dX9_copy_41 ⟨Nat.le_of_ble_eq_true rfl, Nat.le_of_ble_eq_true rfl⟩ ?_
          refine lv_if_ne (tgt := 55) hx hb dX9_copy_44 (by decide) (fun c_83 => ?_) (fun c_83 => ?_)
          · replace c_83 := bI_t c_83
            refine lv_aload_n hx hb dX9_copy_55 rfl (lv_at hl 2 rfl) ?_
            refine lv_ldcw (v := (-100002)) hx hb hown hw2 dX9_copy_56 ?_
            refine kM_i (As := [.int (-100002)]) (rest := []) (q0 := 0) ⟨hx, hb, hml, hown, hts⟩ (t_X9_finding l D cy a _ J (va_up I 10 (I 10)) O (va_up (va_up (va_up (va_up R 13 (R 13)) 15 (R 15)) 17 (R 17)) 19 (R 19)) RO LL Y ((-100002) : Int32)   ) (cwV 1 hts gX9_copy_X9_finding rfl rfl rfl (by decide +kernel) ⟨Nat.le_of_ble_eq_true rfl, Nat.le_of_ble_eq_true rfl⟩) hK hN hP hD hS hA rfl rfl rfl hl.1 rfl (Nat.le_of_ble_eq_true rfl) dX9_copy_59 ⟨Nat.le_of_ble_eq_true rfl, Nat.le_of_ble_eq_true rfl⟩ (fun r_84 u H locs hw hP hD hS => ?_)
            obtain ⟨w_85, rfl, rfl⟩ := hw
            have hP : va_P D vwCl (CT cy a J (va_up I 10 w_85) O (va_up (va_up (va_up (va_up R 13 (R 13)) 15 (R 15)) 17 (R 17)) 19 (R 19)) RO (LL ++ Y)) H := hP
            have hD : va_D A (CT cy a J (va_up I 10 w_85) O (va_up (va_up (va_up (va_up R 13 (R 13)) 15 (R 15)) 17 (R 17)) 19 (R 19)) RO (LL ++ Y)) := hD
            exact wret_i hx hb hr hlocks (J, (va_up I 10 w_85), O, (va_up (va_up (va_up (va_up R 13 (R 13)) 15 (R 15)) 17 (R 17)) 19 (R 19)), RO, LL, Y) ⟨w_85, (R 13), (R 15), (R 17), (R 19), ⟨(cp_no (V := Vs) (cw2 c_1 c_4 (Or.inl (eb0 (by rw [hj_5]; rfl) hSh.2.1 c_83))) (by decide)).1, (by rw [(cp_no (cw2 c_1 c_4 (Or.inl (eb0 (by rw [hj_5]; rfl) hSh.2.1 c_83))) (by decide)).2]; exact hSh)⟩, rfl⟩ hP hD hS dX9_copy_62
          · replace c_83 := bI_f c_83
            refine lv_aload hx hb dX9_copy_47 (lv_at hl 0 rfl) ?_
            refine kR_i (As := []) (rest := []) (q0 := 14) ⟨hx, hb, hml, hown, hts⟩ (x_X6_isMissing14 l D cy a _ J (va_up I 10 (I 10)) O (va_up (va_up (va_up (va_up R 13 (R 13)) 15 (R 15)) 17 (R 17)) 19 (R 19)) RO LL Y   ) (cwV 0 hts gX9_copy_X6_isMissing rfl rfl rfl (by decide +kernel) ⟨Nat.le_of_ble_eq_true rfl, Nat.le_of_ble_eq_true rfl⟩) hK hN hP hD rfl rfl rfl hl.1 rfl (Nat.le_of_ble_eq_true rfl) dX9_copy_49 ⟨Nat.le_of_ble_eq_true rfl, Nat.le_of_ble_eq_true rfl⟩ ?_
            refine lv_if_eq (tgt := 63) hx hb dX9_copy_52 (by decide) (fun c_86 => ?_) (fun c_86 => ?_)
            · replace c_86 := bI_f c_86
              refine lv_aload hx hb dX9_copy_63 (lv_at hl 1 rfl) ?_
              refine va_get (D := D) (ci := 5) (v := .int (I 449)) (C := RX6) (T := TX6) (N := 3) hx hb hts hi6 hown hK hP 14 rfl rfl 1 (by decide) hw3 (fun _ h9 => h9) rfl dX9_copy_65 ?_
              refine lv_aload hx hb dX9_copy_68 (lv_at hl 0 rfl) ?_
              refine va_get (D := D) (ci := 5) (v := .int (I 449)) (C := RX6) (T := TX6) (N := 3) hx hb hts hi6 hown hK hP 14 rfl rfl 1 (by decide) hw3 (fun _ h9 => h9) rfl dX9_copy_70 ?_
              refine lv_icmp_eq (tgt := 83) hx hb dX9_copy_73 (by decide) (fun c_87 => ?_) (fun c_87 => ?_)
              · refine lv_aload hx hb dX9_copy_83 (lv_at hl 1 rfl) ?_
                refine lv_iload_n hx hb dX9_copy_85 rfl (lv_at hl 4 rfl) ?_
                refine lv_iload hx hb dX9_copy_86 (lv_at hl 7 rfl) ?_
                refine kR_i (As := [.int x1, .int x4]) (rest := []) (q0 := 14) ⟨hx, hb, hml, hown, hts⟩ (x_X6_hasRange14 l D cy a _ J (va_up I 10 (I 10)) O (va_up (va_up (va_up (va_up R 13 (R 13)) 15 (R 15)) 17 (R 17)) 19 (R 19)) RO LL Y x1 x4  ) (cwV 2 hts gX9_copy_X6_hasRange rfl rfl rfl (by decide +kernel) ⟨Nat.le_of_ble_eq_true rfl, Nat.le_of_ble_eq_true rfl⟩) hK hN hP hD rfl rfl rfl hl.1 rfl (Nat.le_of_ble_eq_true rfl) dX9_copy_88 ⟨Nat.le_of_ble_eq_true rfl, Nat.le_of_ble_eq_true rfl⟩ ?_
                refine lv_if_eq (tgt := 106) hx hb dX9_copy_91 (by decide) (fun c_88 => ?_) (fun c_88 => ?_)
                · replace c_88 := bI_f c_88
                  refine lv_aload_n hx hb dX9_copy_106 rfl (lv_at hl 2 rfl) ?_
                  refine lv_ldc (v := (-100001)) hx hb hown hw0 dX9_copy_107 ?_
                  refine kM_i (As := [.int (-100001)]) (rest := []) (q0 := 0) ⟨hx, hb, hml, hown, hts⟩ (t_X9_finding l D cy a _ J (va_up I 10 (I 10)) O (va_up (va_up (va_up (va_up R 13 (R 13)) 15 (R 15)) 17 (R 17)) 19 (R 19)) RO LL Y ((-100001) : Int32)   ) (cwV 1 hts gX9_copy_X9_finding rfl rfl rfl (by decide +kernel) ⟨Nat.le_of_ble_eq_true rfl, Nat.le_of_ble_eq_true rfl⟩) hK hN hP hD hS hA rfl rfl rfl hl.1 rfl (Nat.le_of_ble_eq_true rfl) dX9_copy_109 ⟨Nat.le_of_ble_eq_true rfl, Nat.le_of_ble_eq_true rfl⟩ (fun r_89 u H locs hw hP hD hS => ?_)
                  obtain ⟨w_90, rfl, rfl⟩ := hw
                  have hP : va_P D vwCl (CT cy a J (va_up I 10 w_90) O (va_up (va_up (va_up (va_up R 13 (R 13)) 15 (R 15)) 17 (R 17)) 19 (R 19)) RO (LL ++ Y)) H := hP
                  have hD : va_D A (CT cy a J (va_up I 10 w_90) O (va_up (va_up (va_up (va_up R 13 (R 13)) 15 (R 15)) 17 (R 17)) 19 (R 19)) RO (LL ++ Y)) := hD
                  exact wret_i hx hb hr hlocks (J, (va_up I 10 w_90), O, (va_up (va_up (va_up (va_up R 13 (R 13)) 15 (R 15)) 17 (R 17)) 19 (R 19)), RO, LL, Y) ⟨w_90, (R 13), (R 15), (R 17), (R 19), ⟨(cp_no (V := Vs) (cw4 c_1 c_4 (nb0 (by rw [hj_5]; rfl) hSh.2.1 c_83) (nb0 (by rw [hj_67]; rfl) hSh.2.1 c_86) (by rw [bq (by rw [hj_5]; rfl) hSh.2.1, bq (by rw [hj_67]; rfl) hSh.2.1]) (ck_f1 (by rw [hj_5]; rfl) hSh.2.1 c_88)) (by decide)).1, (by rw [(cp_no (cw4 c_1 c_4 (nb0 (by rw [hj_5]; rfl) hSh.2.1 c_83) (nb0 (by rw [hj_67]; rfl) hSh.2.1 c_86) (by rw [bq (by rw [hj_5]; rfl) hSh.2.1, bq (by rw [hj_67]; rfl) hSh.2.1]) (ck_f1 (by rw [hj_5]; rfl) hSh.2.1 c_88)) (by decide)).2]; exact hSh)⟩, rfl⟩ hP hD hS dX9_copy_112
                · replace c_88 := bI_t c_88
                  refine lv_aload hx hb dX9_copy_94 (lv_at hl 0 rfl) ?_
                  refine lv_iload hx hb dX9_copy_96 (lv_at hl 6 rfl) ?_
                  refine lv_iload hx hb dX9_copy_98 (lv_at hl 7 rfl) ?_
                  refine kR_i (As := [.int x3, .int x4]) (rest := []) (q0 := 14) ⟨hx, hb, hml, hown, hts⟩ (x_X6_hasRange14 l D cy a _ J (va_up I 10 (I 10)) O (va_up (va_up (va_up (va_up R 13 (R 13)) 15 (R 15)) 17 (R 17)) 19 (R 19)) RO LL Y x3 x4  ) (cwV 2 hts gX9_copy_X6_hasRange rfl rfl rfl (by decide +kernel) ⟨Nat.le_of_ble_eq_true rfl, Nat.le_of_ble_eq_true rfl⟩) hK hN hP hD rfl rfl rfl hl.1 rfl (Nat.le_of_ble_eq_true rfl) dX9_copy_100 ⟨Nat.le_of_ble_eq_true rfl, Nat.le_of_ble_eq_true rfl⟩ ?_
                  refine lv_if_ne (tgt := 113) hx hb dX9_copy_103 (by decide) (fun c_91 => ?_) (fun c_91 => ?_)
                  · replace c_91 := bI_t c_91
                    refine lv_aload hx hb dX9_copy_113 (lv_at hl 1 rfl) ?_
                    refine va_get (D := D) (ci := 5) (v := .ref (a 15)) (C := RX6) (T := TX6) (N := 3) hx hb hts hi6 hown hK hP 14 rfl rfl 0 (by decide) hw4 (fun _ h9 => h9) rfl dX9_copy_115 ?_
                    refine lv_iload_n hx hb dX9_copy_118 rfl (lv_at hl 4 rfl) ?_
                    refine lv_aload hx hb dX9_copy_119 (lv_at hl 0 rfl) ?_
                    refine va_get (D := D) (ci := 5) (v := .ref (a 15)) (C := RX6) (T := TX6) (N := 3) hx hb hts hi6 hown hK hP 14 rfl rfl 0 (by decide) hw4 (fun _ h9 => h9) rfl dX9_copy_121 ?_
                    refine lv_iload hx hb dX9_copy_124 (lv_at hl 6 rfl) ?_
                    refine lv_iload hx hb dX9_copy_126 (lv_at hl 7 rfl) ?_
                    refine va_copyi hx hb (by rw [hml]; exact hl.1.symm) hown hw5 hw6 hw7 hw8 hK hP hD hS 15 15 0 0 rfl rfl rfl rfl rfl (rng_hr hSh.2.1 c_88).1 (rng_hr hSh.2.1 c_91).1 (rng_hr hSh.2.1 c_88).2.1 (rng_hr hSh.2.1 c_88).2.2 (rng_hr hSh.2.1 c_91).2.2 (fun _ _ => rfl) (Nat.le_of_ble_eq_true rfl) (Nat.le_of_ble_eq_true rfl) dX9_copy_128 (fun H locs hP hD hS => ?_)
                    have hP : va_P D vwCl (CT cy a J (va_up I 10 (I 10)) O (va_up (va_up (va_up (va_up R 13 (R 13)) 15 (va_cpy (R 15) (R 15) x1.toNatClampNeg x3.toNatClampNeg x4.toNatClampNeg)) 17 (R 17)) 19 (R 19)) RO (LL ++ Y)) H := hP
                    have hD : va_D A (CT cy a J (va_up I 10 (I 10)) O (va_up (va_up (va_up (va_up R 13 (R 13)) 15 (va_cpy (R 15) (R 15) x1.toNatClampNeg x3.toNatClampNeg x4.toNatClampNeg)) 17 (R 17)) 19 (R 19)) RO (LL ++ Y)) := hD
                    refine lv_iload hx hb dX9_copy_131 (lv_at hl 7 rfl) ?_
                    exact wret_i hx hb hr hlocks (J, (va_up I 10 (I 10)), O, (va_up (va_up (va_up (va_up R 13 (R 13)) 15 (va_cpy (R 15) (R 15) x1.toNatClampNeg x3.toNatClampNeg x4.toNatClampNeg)) 17 (R 17)) 19 (R 19)), RO, LL, Y) ⟨(I 10), (R 13), (va_cpy (R 15) (R 15) x1.toNatClampNeg x3.toNatClampNeg x4.toNatClampNeg), (R 17), (R 19), ⟨(cp_yes (V := Vs) (cw5 c_1 c_4 (nb0 (by rw [hj_5]; rfl) hSh.2.1 c_83) (nb0 (by rw [hj_67]; rfl) hSh.2.1 c_86) (by rw [bq (by rw [hj_5]; rfl) hSh.2.1, bq (by rw [hj_67]; rfl) hSh.2.1]) (ck_t (by rw [hj_5]; rfl) hSh.2.1 (by rw [hj_67]; rfl) hSh.2.1 c_88 c_91))).1, (by rw [(cp_yes (cw5 c_1 c_4 (nb0 (by rw [hj_5]; rfl) hSh.2.1 c_83) (nb0 (by rw [hj_67]; rfl) hSh.2.1 c_86) (by rw [bq (by rw [hj_5]; rfl) hSh.2.1, bq (by rw [hj_67]; rfl) hSh.2.1]) (ck_t (by rw [hj_5]; rfl) hSh.2.1 (by rw [hj_67]; rfl) hSh.2.1 c_88 c_91))).2]; exact RCs_v1 (by rw [hj_67]; rfl) hSh (ck_v (by rw [hj_5]; rfl) hSh.2.1 (by rw [hj_67]; rfl) hSh.2.1 c_88 c_91))⟩, rfl⟩ hP hD hS dX9_copy_133
                  · replace c_91 := bI_f c_91
                    refine lv_aload_n hx hb dX9_copy_106 rfl (lv_at hl 2 rfl) ?_
                    refine lv_ldc (v := (-100001)) hx hb hown hw0 dX9_copy_107 ?_
                    refine kM_i (As := [.int (-100001)]) (rest := []) (q0 := 0) ⟨hx, hb, hml, hown, hts⟩ (t_X9_finding l D cy a _ J (va_up I 10 (I 10)) O (va_up (va_up (va_up (va_up R 13 (R 13)) 15 (R 15)) 17 (R 17)) 19 (R 19)) RO LL Y ((-100001) : Int32)   ) (cwV 1 hts gX9_copy_X9_finding rfl rfl rfl (by decide +kernel) ⟨Nat.le_of_ble_eq_true rfl, Nat.le_of_ble_eq_true rfl⟩) hK hN hP hD hS hA rfl rfl rfl hl.1 rfl (Nat.le_of_ble_eq_true rfl) dX9_copy_109 ⟨Nat.le_of_ble_eq_true rfl, Nat.le_of_ble_eq_true rfl⟩ (fun r_92 u H locs hw hP hD hS => ?_)
                    obtain ⟨w_93, rfl, rfl⟩ := hw
                    have hP : va_P D vwCl (CT cy a J (va_up I 10 w_93) O (va_up (va_up (va_up (va_up R 13 (R 13)) 15 (R 15)) 17 (R 17)) 19 (R 19)) RO (LL ++ Y)) H := hP
                    have hD : va_D A (CT cy a J (va_up I 10 w_93) O (va_up (va_up (va_up (va_up R 13 (R 13)) 15 (R 15)) 17 (R 17)) 19 (R 19)) RO (LL ++ Y)) := hD
                    exact wret_i hx hb hr hlocks (J, (va_up I 10 w_93), O, (va_up (va_up (va_up (va_up R 13 (R 13)) 15 (R 15)) 17 (R 17)) 19 (R 19)), RO, LL, Y) ⟨w_93, (R 13), (R 15), (R 17), (R 19), ⟨(cp_no (V := Vs) (cw4 c_1 c_4 (nb0 (by rw [hj_5]; rfl) hSh.2.1 c_83) (nb0 (by rw [hj_67]; rfl) hSh.2.1 c_86) (by rw [bq (by rw [hj_5]; rfl) hSh.2.1, bq (by rw [hj_67]; rfl) hSh.2.1]) (ck_f2 (by rw [hj_67]; rfl) hSh.2.1 c_91)) (by decide)).1, (by rw [(cp_no (cw4 c_1 c_4 (nb0 (by rw [hj_5]; rfl) hSh.2.1 c_83) (nb0 (by rw [hj_67]; rfl) hSh.2.1 c_86) (by rw [bq (by rw [hj_5]; rfl) hSh.2.1, bq (by rw [hj_67]; rfl) hSh.2.1]) (ck_f2 (by rw [hj_67]; rfl) hSh.2.1 c_91)) (by decide)).2]; exact hSh)⟩, rfl⟩ hP hD hS dX9_copy_112
              · refine lv_aload_n hx hb dX9_copy_76 rfl (lv_at hl 2 rfl) ?_
                refine lv_ldc (v := (-100004)) hx hb hown hw9 dX9_copy_77 ?_
                refine kM_i (As := [.int (-100004)]) (rest := []) (q0 := 0) ⟨hx, hb, hml, hown, hts⟩ (t_X9_finding l D cy a _ J (va_up I 10 (I 10)) O (va_up (va_up (va_up (va_up R 13 (R 13)) 15 (R 15)) 17 (R 17)) 19 (R 19)) RO LL Y ((-100004) : Int32)   ) (cwV 1 hts gX9_copy_X9_finding rfl rfl rfl (by decide +kernel) ⟨Nat.le_of_ble_eq_true rfl, Nat.le_of_ble_eq_true rfl⟩) hK hN hP hD hS hA rfl rfl rfl hl.1 rfl (Nat.le_of_ble_eq_true rfl) dX9_copy_79 ⟨Nat.le_of_ble_eq_true rfl, Nat.le_of_ble_eq_true rfl⟩ (fun r_94 u H locs hw hP hD hS => ?_)
                obtain ⟨w_95, rfl, rfl⟩ := hw
                have hP : va_P D vwCl (CT cy a J (va_up I 10 w_95) O (va_up (va_up (va_up (va_up R 13 (R 13)) 15 (R 15)) 17 (R 17)) 19 (R 19)) RO (LL ++ Y)) H := hP
                have hD : va_D A (CT cy a J (va_up I 10 w_95) O (va_up (va_up (va_up (va_up R 13 (R 13)) 15 (R 15)) 17 (R 17)) 19 (R 19)) RO (LL ++ Y)) := hD
                exact wret_i hx hb hr hlocks (J, (va_up I 10 w_95), O, (va_up (va_up (va_up (va_up R 13 (R 13)) 15 (R 15)) 17 (R 17)) 19 (R 19)), RO, LL, Y) ⟨w_95, (R 13), (R 15), (R 17), (R 19), ⟨(cp_no (V := Vs) (cw3 c_1 c_4 (nb0 (by rw [hj_5]; rfl) hSh.2.1 c_83) (nb0 (by rw [hj_67]; rfl) hSh.2.1 c_86) (by rw [bq (by rw [hj_5]; rfl) hSh.2.1, bq (by rw [hj_67]; rfl) hSh.2.1]; exact c_87)) (by decide)).1, (by rw [(cp_no (cw3 c_1 c_4 (nb0 (by rw [hj_5]; rfl) hSh.2.1 c_83) (nb0 (by rw [hj_67]; rfl) hSh.2.1 c_86) (by rw [bq (by rw [hj_5]; rfl) hSh.2.1, bq (by rw [hj_67]; rfl) hSh.2.1]; exact c_87)) (by decide)).2]; exact hSh)⟩, rfl⟩ hP hD hS dX9_copy_82
            · replace c_86 := bI_t c_86
              refine lv_aload_n hx hb dX9_copy_55 rfl (lv_at hl 2 rfl) ?_
              refine lv_ldcw (v := (-100002)) hx hb hown hw2 dX9_copy_56 ?_
              refine kM_i (As := [.int (-100002)]) (rest := []) (q0 := 0) ⟨hx, hb, hml, hown, hts⟩ (t_X9_finding l D cy a _ J (va_up I 10 (I 10)) O (va_up (va_up (va_up (va_up R 13 (R 13)) 15 (R 15)) 17 (R 17)) 19 (R 19)) RO LL Y ((-100002) : Int32)   ) (cwV 1 hts gX9_copy_X9_finding rfl rfl rfl (by decide +kernel) ⟨Nat.le_of_ble_eq_true rfl, Nat.le_of_ble_eq_true rfl⟩) hK hN hP hD hS hA rfl rfl rfl hl.1 rfl (Nat.le_of_ble_eq_true rfl) dX9_copy_59 ⟨Nat.le_of_ble_eq_true rfl, Nat.le_of_ble_eq_true rfl⟩ (fun r_96 u H locs hw hP hD hS => ?_)
              obtain ⟨w_97, rfl, rfl⟩ := hw
              have hP : va_P D vwCl (CT cy a J (va_up I 10 w_97) O (va_up (va_up (va_up (va_up R 13 (R 13)) 15 (R 15)) 17 (R 17)) 19 (R 19)) RO (LL ++ Y)) H := hP
              have hD : va_D A (CT cy a J (va_up I 10 w_97) O (va_up (va_up (va_up (va_up R 13 (R 13)) 15 (R 15)) 17 (R 17)) 19 (R 19)) RO (LL ++ Y)) := hD
              exact wret_i hx hb hr hlocks (J, (va_up I 10 w_97), O, (va_up (va_up (va_up (va_up R 13 (R 13)) 15 (R 15)) 17 (R 17)) 19 (R 19)), RO, LL, Y) ⟨w_97, (R 13), (R 15), (R 17), (R 19), ⟨(cp_no (V := Vs) (cw2 c_1 c_4 (Or.inr (eb0 (by rw [hj_67]; rfl) hSh.2.1 c_86))) (by decide)).1, (by rw [(cp_no (cw2 c_1 c_4 (Or.inr (eb0 (by rw [hj_67]; rfl) hSh.2.1 c_86))) (by decide)).2]; exact hSh)⟩, rfl⟩ hP hD hS dX9_copy_62
        · refine wtop_v (y := .ref (a 16)) (by rw [hj_67]; exact congrArg va_rf hRO2) ?_
          refine lv_astore (lv' := [(7, .ref (a 16)), (6, .ref (a 14)), (0, .ref (a 0)), (1, .int x0), (2, .int x1), (3, .int x2), (4, .int x3), (5, .int x4)]) hx hb dX9_copy_37 hl (by decide) rfl (fun ls hl => ?_)
          refine lv_aload hx hb dX9_copy_39 (lv_at hl 1 rfl) ?_
          refine kR_i (As := []) (rest := []) (q0 := 14) ⟨hx, hb, hml, hown, hts⟩ (x_X6_isMissing14 l D cy a _ J (va_up I 10 (I 10)) O (va_up (va_up (va_up (va_up R 13 (R 13)) 15 (R 15)) 17 (R 17)) 19 (R 19)) RO LL Y   ) (cwV 0 hts gX9_copy_X6_isMissing rfl rfl rfl (by decide +kernel) ⟨Nat.le_of_ble_eq_true rfl, Nat.le_of_ble_eq_true rfl⟩) hK hN hP hD rfl rfl rfl hl.1 rfl (Nat.le_of_ble_eq_true rfl) dX9_copy_41 ⟨Nat.le_of_ble_eq_true rfl, Nat.le_of_ble_eq_true rfl⟩ ?_
          refine lv_if_ne (tgt := 55) hx hb dX9_copy_44 (by decide) (fun c_98 => ?_) (fun c_98 => ?_)
          · replace c_98 := bI_t c_98
            refine lv_aload_n hx hb dX9_copy_55 rfl (lv_at hl 2 rfl) ?_
            refine lv_ldcw (v := (-100002)) hx hb hown hw2 dX9_copy_56 ?_
            refine kM_i (As := [.int (-100002)]) (rest := []) (q0 := 0) ⟨hx, hb, hml, hown, hts⟩ (t_X9_finding l D cy a _ J (va_up I 10 (I 10)) O (va_up (va_up (va_up (va_up R 13 (R 13)) 15 (R 15)) 17 (R 17)) 19 (R 19)) RO LL Y ((-100002) : Int32)   ) (cwV 1 hts gX9_copy_X9_finding rfl rfl rfl (by decide +kernel) ⟨Nat.le_of_ble_eq_true rfl, Nat.le_of_ble_eq_true rfl⟩) hK hN hP hD hS hA rfl rfl rfl hl.1 rfl (Nat.le_of_ble_eq_true rfl) dX9_copy_59 ⟨Nat.le_of_ble_eq_true rfl, Nat.le_of_ble_eq_true rfl⟩ (fun r_99 u H locs hw hP hD hS => ?_)
            obtain ⟨w_100, rfl, rfl⟩ := hw
            have hP : va_P D vwCl (CT cy a J (va_up I 10 w_100) O (va_up (va_up (va_up (va_up R 13 (R 13)) 15 (R 15)) 17 (R 17)) 19 (R 19)) RO (LL ++ Y)) H := hP
            have hD : va_D A (CT cy a J (va_up I 10 w_100) O (va_up (va_up (va_up (va_up R 13 (R 13)) 15 (R 15)) 17 (R 17)) 19 (R 19)) RO (LL ++ Y)) := hD
            exact wret_i hx hb hr hlocks (J, (va_up I 10 w_100), O, (va_up (va_up (va_up (va_up R 13 (R 13)) 15 (R 15)) 17 (R 17)) 19 (R 19)), RO, LL, Y) ⟨w_100, (R 13), (R 15), (R 17), (R 19), ⟨(cp_no (V := Vs) (cw2 c_1 c_4 (Or.inl (eb0 (by rw [hj_5]; rfl) hSh.2.1 c_98))) (by decide)).1, (by rw [(cp_no (cw2 c_1 c_4 (Or.inl (eb0 (by rw [hj_5]; rfl) hSh.2.1 c_98))) (by decide)).2]; exact hSh)⟩, rfl⟩ hP hD hS dX9_copy_62
          · replace c_98 := bI_f c_98
            refine lv_aload hx hb dX9_copy_47 (lv_at hl 0 rfl) ?_
            refine kR_i (As := []) (rest := []) (q0 := 16) ⟨hx, hb, hml, hown, hts⟩ (x_X6_isMissing16 l D cy a _ J (va_up I 10 (I 10)) O (va_up (va_up (va_up (va_up R 13 (R 13)) 15 (R 15)) 17 (R 17)) 19 (R 19)) RO LL Y   ) (cwV 0 hts gX9_copy_X6_isMissing rfl rfl rfl (by decide +kernel) ⟨Nat.le_of_ble_eq_true rfl, Nat.le_of_ble_eq_true rfl⟩) hK hN hP hD rfl rfl rfl hl.1 rfl (Nat.le_of_ble_eq_true rfl) dX9_copy_49 ⟨Nat.le_of_ble_eq_true rfl, Nat.le_of_ble_eq_true rfl⟩ ?_
            refine lv_if_eq (tgt := 63) hx hb dX9_copy_52 (by decide) (fun c_101 => ?_) (fun c_101 => ?_)
            · replace c_101 := bI_f c_101
              refine lv_aload hx hb dX9_copy_63 (lv_at hl 1 rfl) ?_
              refine va_get (D := D) (ci := 5) (v := .int (I 449)) (C := RX6) (T := TX6) (N := 3) hx hb hts hi6 hown hK hP 14 rfl rfl 1 (by decide) hw3 (fun _ h9 => h9) rfl dX9_copy_65 ?_
              refine lv_aload hx hb dX9_copy_68 (lv_at hl 0 rfl) ?_
              refine va_get (D := D) (ci := 5) (v := .int (I 513)) (C := RX6) (T := TX6) (N := 3) hx hb hts hi6 hown hK hP 16 rfl rfl 1 (by decide) hw3 (fun _ h9 => h9) rfl dX9_copy_70 ?_
              refine lv_icmp_eq (tgt := 83) hx hb dX9_copy_73 (by decide) (fun c_102 => ?_) (fun c_102 => ?_)
              · refine lv_aload hx hb dX9_copy_83 (lv_at hl 1 rfl) ?_
                refine lv_iload_n hx hb dX9_copy_85 rfl (lv_at hl 4 rfl) ?_
                refine lv_iload hx hb dX9_copy_86 (lv_at hl 7 rfl) ?_
                refine kR_i (As := [.int x1, .int x4]) (rest := []) (q0 := 14) ⟨hx, hb, hml, hown, hts⟩ (x_X6_hasRange14 l D cy a _ J (va_up I 10 (I 10)) O (va_up (va_up (va_up (va_up R 13 (R 13)) 15 (R 15)) 17 (R 17)) 19 (R 19)) RO LL Y x1 x4  ) (cwV 2 hts gX9_copy_X6_hasRange rfl rfl rfl (by decide +kernel) ⟨Nat.le_of_ble_eq_true rfl, Nat.le_of_ble_eq_true rfl⟩) hK hN hP hD rfl rfl rfl hl.1 rfl (Nat.le_of_ble_eq_true rfl) dX9_copy_88 ⟨Nat.le_of_ble_eq_true rfl, Nat.le_of_ble_eq_true rfl⟩ ?_
                refine lv_if_eq (tgt := 106) hx hb dX9_copy_91 (by decide) (fun c_103 => ?_) (fun c_103 => ?_)
                · replace c_103 := bI_f c_103
                  refine lv_aload_n hx hb dX9_copy_106 rfl (lv_at hl 2 rfl) ?_
                  refine lv_ldc (v := (-100001)) hx hb hown hw0 dX9_copy_107 ?_
                  refine kM_i (As := [.int (-100001)]) (rest := []) (q0 := 0) ⟨hx, hb, hml, hown, hts⟩ (t_X9_finding l D cy a _ J (va_up I 10 (I 10)) O (va_up (va_up (va_up (va_up R 13 (R 13)) 15 (R 15)) 17 (R 17)) 19 (R 19)) RO LL Y ((-100001) : Int32)   ) (cwV 1 hts gX9_copy_X9_finding rfl rfl rfl (by decide +kernel) ⟨Nat.le_of_ble_eq_true rfl, Nat.le_of_ble_eq_true rfl⟩) hK hN hP hD hS hA rfl rfl rfl hl.1 rfl (Nat.le_of_ble_eq_true rfl) dX9_copy_109 ⟨Nat.le_of_ble_eq_true rfl, Nat.le_of_ble_eq_true rfl⟩ (fun r_104 u H locs hw hP hD hS => ?_)
                  obtain ⟨w_105, rfl, rfl⟩ := hw
                  have hP : va_P D vwCl (CT cy a J (va_up I 10 w_105) O (va_up (va_up (va_up (va_up R 13 (R 13)) 15 (R 15)) 17 (R 17)) 19 (R 19)) RO (LL ++ Y)) H := hP
                  have hD : va_D A (CT cy a J (va_up I 10 w_105) O (va_up (va_up (va_up (va_up R 13 (R 13)) 15 (R 15)) 17 (R 17)) 19 (R 19)) RO (LL ++ Y)) := hD
                  exact wret_i hx hb hr hlocks (J, (va_up I 10 w_105), O, (va_up (va_up (va_up (va_up R 13 (R 13)) 15 (R 15)) 17 (R 17)) 19 (R 19)), RO, LL, Y) ⟨w_105, (R 13), (R 15), (R 17), (R 19), ⟨(cp_no (V := Vs) (cw4 c_1 c_4 (nb0 (by rw [hj_5]; rfl) hSh.2.1 c_98) (nb0 (by rw [hj_67]; rfl) hSh.2.2.1 c_101) (by rw [bq (by rw [hj_5]; rfl) hSh.2.1, bq (by rw [hj_67]; rfl) hSh.2.2.1]; exact c_102) (ck_f1 (by rw [hj_5]; rfl) hSh.2.1 c_103)) (by decide)).1, (by rw [(cp_no (cw4 c_1 c_4 (nb0 (by rw [hj_5]; rfl) hSh.2.1 c_98) (nb0 (by rw [hj_67]; rfl) hSh.2.2.1 c_101) (by rw [bq (by rw [hj_5]; rfl) hSh.2.1, bq (by rw [hj_67]; rfl) hSh.2.2.1]; exact c_102) (ck_f1 (by rw [hj_5]; rfl) hSh.2.1 c_103)) (by decide)).2]; exact hSh)⟩, rfl⟩ hP hD hS dX9_copy_112
                · replace c_103 := bI_t c_103
                  refine lv_aload hx hb dX9_copy_94 (lv_at hl 0 rfl) ?_
                  refine lv_iload hx hb dX9_copy_96 (lv_at hl 6 rfl) ?_
                  refine lv_iload hx hb dX9_copy_98 (lv_at hl 7 rfl) ?_
                  refine kR_i (As := [.int x3, .int x4]) (rest := []) (q0 := 16) ⟨hx, hb, hml, hown, hts⟩ (x_X6_hasRange16 l D cy a _ J (va_up I 10 (I 10)) O (va_up (va_up (va_up (va_up R 13 (R 13)) 15 (R 15)) 17 (R 17)) 19 (R 19)) RO LL Y x3 x4  ) (cwV 2 hts gX9_copy_X6_hasRange rfl rfl rfl (by decide +kernel) ⟨Nat.le_of_ble_eq_true rfl, Nat.le_of_ble_eq_true rfl⟩) hK hN hP hD rfl rfl rfl hl.1 rfl (Nat.le_of_ble_eq_true rfl) dX9_copy_100 ⟨Nat.le_of_ble_eq_true rfl, Nat.le_of_ble_eq_true rfl⟩ ?_
                  refine lv_if_ne (tgt := 113) hx hb dX9_copy_103 (by decide) (fun c_106 => ?_) (fun c_106 => ?_)
                  · replace c_106 := bI_t c_106
                    refine lv_aload hx hb dX9_copy_113 (lv_at hl 1 rfl) ?_
                    refine va_get (D := D) (ci := 5) (v := .ref (a 15)) (C := RX6) (T := TX6) (N := 3) hx hb hts hi6 hown hK hP 14 rfl rfl 0 (by decide) hw4 (fun _ h9 => h9) rfl dX9_copy_115 ?_
                    refine lv_iload_n hx hb dX9_copy_118 rfl (lv_at hl 4 rfl) ?_
                    refine lv_aload hx hb dX9_copy_119 (lv_at hl 0 rfl) ?_
                    refine va_get (D := D) (ci := 5) (v := .ref (a 17)) (C := RX6) (T := TX6) (N := 3) hx hb hts hi6 hown hK hP 16 rfl rfl 0 (by decide) hw4 (fun _ h9 => h9) rfl dX9_copy_121 ?_
                    refine lv_iload hx hb dX9_copy_124 (lv_at hl 6 rfl) ?_
                    refine lv_iload hx hb dX9_copy_126 (lv_at hl 7 rfl) ?_
                    refine va_copyi hx hb (by rw [hml]; exact hl.1.symm) hown hw5 hw6 hw7 hw8 hK hP hD hS 15 17 0 0 rfl rfl rfl rfl rfl (rng_hr hSh.2.1 c_103).1 (rng_hr hSh.2.2.1 c_106).1 (rng_hr hSh.2.1 c_103).2.1 (rng_hr hSh.2.1 c_103).2.2 (rng_hr hSh.2.2.1 c_106).2.2 (fun _ _ => rfl) (Nat.le_of_ble_eq_true rfl) (Nat.le_of_ble_eq_true rfl) dX9_copy_128 (fun H locs hP hD hS => ?_)
                    have hP : va_P D vwCl (CT cy a J (va_up I 10 (I 10)) O (va_up (va_up (va_up (va_up R 13 (R 13)) 15 (R 15)) 17 (va_cpy (R 15) (R 17) x1.toNatClampNeg x3.toNatClampNeg x4.toNatClampNeg)) 19 (R 19)) RO (LL ++ Y)) H := hP
                    have hD : va_D A (CT cy a J (va_up I 10 (I 10)) O (va_up (va_up (va_up (va_up R 13 (R 13)) 15 (R 15)) 17 (va_cpy (R 15) (R 17) x1.toNatClampNeg x3.toNatClampNeg x4.toNatClampNeg)) 19 (R 19)) RO (LL ++ Y)) := hD
                    refine lv_iload hx hb dX9_copy_131 (lv_at hl 7 rfl) ?_
                    exact wret_i hx hb hr hlocks (J, (va_up I 10 (I 10)), O, (va_up (va_up (va_up (va_up R 13 (R 13)) 15 (R 15)) 17 (va_cpy (R 15) (R 17) x1.toNatClampNeg x3.toNatClampNeg x4.toNatClampNeg)) 19 (R 19)), RO, LL, Y) ⟨(I 10), (R 13), (R 15), (va_cpy (R 15) (R 17) x1.toNatClampNeg x3.toNatClampNeg x4.toNatClampNeg), (R 19), ⟨(cp_yes (V := Vs) (cw5 c_1 c_4 (nb0 (by rw [hj_5]; rfl) hSh.2.1 c_98) (nb0 (by rw [hj_67]; rfl) hSh.2.2.1 c_101) (by rw [bq (by rw [hj_5]; rfl) hSh.2.1, bq (by rw [hj_67]; rfl) hSh.2.2.1]; exact c_102) (ck_t (by rw [hj_5]; rfl) hSh.2.1 (by rw [hj_67]; rfl) hSh.2.2.1 c_103 c_106))).1, (by rw [(cp_yes (cw5 c_1 c_4 (nb0 (by rw [hj_5]; rfl) hSh.2.1 c_98) (nb0 (by rw [hj_67]; rfl) hSh.2.2.1 c_101) (by rw [bq (by rw [hj_5]; rfl) hSh.2.1, bq (by rw [hj_67]; rfl) hSh.2.2.1]; exact c_102) (ck_t (by rw [hj_5]; rfl) hSh.2.1 (by rw [hj_67]; rfl) hSh.2.2.1 c_103 c_106))).2]; exact RCs_v2 (by rw [hj_67]; rfl) hSh (ck_v (by rw [hj_5]; rfl) hSh.2.1 (by rw [hj_67]; rfl) hSh.2.2.1 c_103 c_106))⟩, rfl⟩ hP hD hS dX9_copy_133
                  · replace c_106 := bI_f c_106
                    refine lv_aload_n hx hb dX9_copy_106 rfl (lv_at hl 2 rfl) ?_
                    refine lv_ldc (v := (-100001)) hx hb hown hw0 dX9_copy_107 ?_
                    refine kM_i (As := [.int (-100001)]) (rest := []) (q0 := 0) ⟨hx, hb, hml, hown, hts⟩ (t_X9_finding l D cy a _ J (va_up I 10 (I 10)) O (va_up (va_up (va_up (va_up R 13 (R 13)) 15 (R 15)) 17 (R 17)) 19 (R 19)) RO LL Y ((-100001) : Int32)   ) (cwV 1 hts gX9_copy_X9_finding rfl rfl rfl (by decide +kernel) ⟨Nat.le_of_ble_eq_true rfl, Nat.le_of_ble_eq_true rfl⟩) hK hN hP hD hS hA rfl rfl rfl hl.1 rfl (Nat.le_of_ble_eq_true rfl) dX9_copy_109 ⟨Nat.le_of_ble_eq_true rfl, Nat.le_of_ble_eq_true rfl⟩ (fun r_107 u H locs hw hP hD hS => ?_)
                    obtain ⟨w_108, rfl, rfl⟩ := hw
                    have hP : va_P D vwCl (CT cy a J (va_up I 10 w_108) O (va_up (va_up (va_up (va_up R 13 (R 13)) 15 (R 15)) 17 (R 17)) 19 (R 19)) RO (LL ++ Y)) H := hP
                    have hD : va_D A (CT cy a J (va_up I 10 w_108) O (va_up (va_up (va_up (va_up R 13 (R 13)) 15 (R 15)) 17 (R 17)) 19 (R 19)) RO (LL ++ Y)) := hD
                    exact wret_i hx hb hr hlocks (J, (va_up I 10 w_108), O, (va_up (va_up (va_up (va_up R 13 (R 13)) 15 (R 15)) 17 (R 17)) 19 (R 19)), RO, LL, Y) ⟨w_108, (R 13), (R 15), (R 17), (R 19), ⟨(cp_no (V := Vs) (cw4 c_1 c_4 (nb0 (by rw [hj_5]; rfl) hSh.2.1 c_98) (nb0 (by rw [hj_67]; rfl) hSh.2.2.1 c_101) (by rw [bq (by rw [hj_5]; rfl) hSh.2.1, bq (by rw [hj_67]; rfl) hSh.2.2.1]; exact c_102) (ck_f2 (by rw [hj_67]; rfl) hSh.2.2.1 c_106)) (by decide)).1, (by rw [(cp_no (cw4 c_1 c_4 (nb0 (by rw [hj_5]; rfl) hSh.2.1 c_98) (nb0 (by rw [hj_67]; rfl) hSh.2.2.1 c_101) (by rw [bq (by rw [hj_5]; rfl) hSh.2.1, bq (by rw [hj_67]; rfl) hSh.2.2.1]; exact c_102) (ck_f2 (by rw [hj_67]; rfl) hSh.2.2.1 c_106)) (by decide)).2]; exact hSh)⟩, rfl⟩ hP hD hS dX9_copy_112
              · refine lv_aload_n hx hb dX9_copy_76 rfl (lv_at hl 2 rfl) ?_
                refine lv_ldc (v := (-100004)) hx hb hown hw9 dX9_copy_77 ?_
                refine kM_i (As := [.int (-100004)]) (rest := []) (q0 := 0) ⟨hx, hb, hml, hown, hts⟩ (t_X9_finding l D cy a _ J (va_up I 10 (I 10)) O (va_up (va_up (va_up (va_up R 13 (R 13)) 15 (R 15)) 17 (R 17)) 19 (R 19)) RO LL Y ((-100004) : Int32)   ) (cwV 1 hts gX9_copy_X9_finding rfl rfl rfl (by decide +kernel) ⟨Nat.le_of_ble_eq_true rfl, Nat.le_of_ble_eq_true rfl⟩) hK hN hP hD hS hA rfl rfl rfl hl.1 rfl (Nat.le_of_ble_eq_true rfl) dX9_copy_79 ⟨Nat.le_of_ble_eq_true rfl, Nat.le_of_ble_eq_true rfl⟩ (fun r_109 u H locs hw hP hD hS => ?_)
                obtain ⟨w_110, rfl, rfl⟩ := hw
                have hP : va_P D vwCl (CT cy a J (va_up I 10 w_110) O (va_up (va_up (va_up (va_up R 13 (R 13)) 15 (R 15)) 17 (R 17)) 19 (R 19)) RO (LL ++ Y)) H := hP
                have hD : va_D A (CT cy a J (va_up I 10 w_110) O (va_up (va_up (va_up (va_up R 13 (R 13)) 15 (R 15)) 17 (R 17)) 19 (R 19)) RO (LL ++ Y)) := hD
                exact wret_i hx hb hr hlocks (J, (va_up I 10 w_110), O, (va_up (va_up (va_up (va_up R 13 (R 13)) 15 (R 15)) 17 (R 17)) 19 (R 19)), RO, LL, Y) ⟨w_110, (R 13), (R 15), (R 17), (R 19), ⟨(cp_no (V := Vs) (cw3 c_1 c_4 (nb0 (by rw [hj_5]; rfl) hSh.2.1 c_98) (nb0 (by rw [hj_67]; rfl) hSh.2.2.1 c_101) (by rw [bq (by rw [hj_5]; rfl) hSh.2.1, bq (by rw [hj_67]; rfl) hSh.2.2.1]; exact c_102)) (by decide)).1, (by rw [(cp_no (cw3 c_1 c_4 (nb0 (by rw [hj_5]; rfl) hSh.2.1 c_98) (nb0 (by rw [hj_67]; rfl) hSh.2.2.1 c_101) (by rw [bq (by rw [hj_5]; rfl) hSh.2.1, bq (by rw [hj_67]; rfl) hSh.2.2.1]; exact c_102)) (by decide)).2]; exact hSh)⟩, rfl⟩ hP hD hS dX9_copy_82
            · replace c_101 := bI_t c_101
              refine lv_aload_n hx hb dX9_copy_55 rfl (lv_at hl 2 rfl) ?_
              refine lv_ldcw (v := (-100002)) hx hb hown hw2 dX9_copy_56 ?_
              refine kM_i (As := [.int (-100002)]) (rest := []) (q0 := 0) ⟨hx, hb, hml, hown, hts⟩ (t_X9_finding l D cy a _ J (va_up I 10 (I 10)) O (va_up (va_up (va_up (va_up R 13 (R 13)) 15 (R 15)) 17 (R 17)) 19 (R 19)) RO LL Y ((-100002) : Int32)   ) (cwV 1 hts gX9_copy_X9_finding rfl rfl rfl (by decide +kernel) ⟨Nat.le_of_ble_eq_true rfl, Nat.le_of_ble_eq_true rfl⟩) hK hN hP hD hS hA rfl rfl rfl hl.1 rfl (Nat.le_of_ble_eq_true rfl) dX9_copy_59 ⟨Nat.le_of_ble_eq_true rfl, Nat.le_of_ble_eq_true rfl⟩ (fun r_111 u H locs hw hP hD hS => ?_)
              obtain ⟨w_112, rfl, rfl⟩ := hw
              have hP : va_P D vwCl (CT cy a J (va_up I 10 w_112) O (va_up (va_up (va_up (va_up R 13 (R 13)) 15 (R 15)) 17 (R 17)) 19 (R 19)) RO (LL ++ Y)) H := hP
              have hD : va_D A (CT cy a J (va_up I 10 w_112) O (va_up (va_up (va_up (va_up R 13 (R 13)) 15 (R 15)) 17 (R 17)) 19 (R 19)) RO (LL ++ Y)) := hD
              exact wret_i hx hb hr hlocks (J, (va_up I 10 w_112), O, (va_up (va_up (va_up (va_up R 13 (R 13)) 15 (R 15)) 17 (R 17)) 19 (R 19)), RO, LL, Y) ⟨w_112, (R 13), (R 15), (R 17), (R 19), ⟨(cp_no (V := Vs) (cw2 c_1 c_4 (Or.inr (eb0 (by rw [hj_67]; rfl) hSh.2.2.1 c_101))) (by decide)).1, (by rw [(cp_no (cw2 c_1 c_4 (Or.inr (eb0 (by rw [hj_67]; rfl) hSh.2.2.1 c_101))) (by decide)).2]; exact hSh)⟩, rfl⟩ hP hD hS dX9_copy_62
        · refine wtop_v (y := .ref (a 18)) (by rw [hj_67]; exact congrArg va_rf hRO3) ?_
          refine lv_astore (lv' := [(7, .ref (a 18)), (6, .ref (a 14)), (0, .ref (a 0)), (1, .int x0), (2, .int x1), (3, .int x2), (4, .int x3), (5, .int x4)]) hx hb dX9_copy_37 hl (by decide) rfl (fun ls hl => ?_)
          refine lv_aload hx hb dX9_copy_39 (lv_at hl 1 rfl) ?_
          refine kR_i (As := []) (rest := []) (q0 := 14) ⟨hx, hb, hml, hown, hts⟩ (x_X6_isMissing14 l D cy a _ J (va_up I 10 (I 10)) O (va_up (va_up (va_up (va_up R 13 (R 13)) 15 (R 15)) 17 (R 17)) 19 (R 19)) RO LL Y   ) (cwV 0 hts gX9_copy_X6_isMissing rfl rfl rfl (by decide +kernel) ⟨Nat.le_of_ble_eq_true rfl, Nat.le_of_ble_eq_true rfl⟩) hK hN hP hD rfl rfl rfl hl.1 rfl (Nat.le_of_ble_eq_true rfl) dX9_copy_41 ⟨Nat.le_of_ble_eq_true rfl, Nat.le_of_ble_eq_true rfl⟩ ?_
          refine lv_if_ne (tgt := 55) hx hb dX9_copy_44 (by decide) (fun c_113 => ?_) (fun c_113 => ?_)
          · replace c_113 := bI_t c_113
            refine lv_aload_n hx hb dX9_copy_55 rfl (lv_at hl 2 rfl) ?_
            refine lv_ldcw (v := (-100002)) hx hb hown hw2 dX9_copy_56 ?_
            refine kM_i (As := [.int (-100002)]) (rest := []) (q0 := 0) ⟨hx, hb, hml, hown, hts⟩ (t_X9_finding l D cy a _ J (va_up I 10 (I 10)) O (va_up (va_up (va_up (va_up R 13 (R 13)) 15 (R 15)) 17 (R 17)) 19 (R 19)) RO LL Y ((-100002) : Int32)   ) (cwV 1 hts gX9_copy_X9_finding rfl rfl rfl (by decide +kernel) ⟨Nat.le_of_ble_eq_true rfl, Nat.le_of_ble_eq_true rfl⟩) hK hN hP hD hS hA rfl rfl rfl hl.1 rfl (Nat.le_of_ble_eq_true rfl) dX9_copy_59 ⟨Nat.le_of_ble_eq_true rfl, Nat.le_of_ble_eq_true rfl⟩ (fun r_114 u H locs hw hP hD hS => ?_)
            obtain ⟨w_115, rfl, rfl⟩ := hw
            have hP : va_P D vwCl (CT cy a J (va_up I 10 w_115) O (va_up (va_up (va_up (va_up R 13 (R 13)) 15 (R 15)) 17 (R 17)) 19 (R 19)) RO (LL ++ Y)) H := hP
            have hD : va_D A (CT cy a J (va_up I 10 w_115) O (va_up (va_up (va_up (va_up R 13 (R 13)) 15 (R 15)) 17 (R 17)) 19 (R 19)) RO (LL ++ Y)) := hD
            exact wret_i hx hb hr hlocks (J, (va_up I 10 w_115), O, (va_up (va_up (va_up (va_up R 13 (R 13)) 15 (R 15)) 17 (R 17)) 19 (R 19)), RO, LL, Y) ⟨w_115, (R 13), (R 15), (R 17), (R 19), ⟨(cp_no (V := Vs) (cw2 c_1 c_4 (Or.inl (eb0 (by rw [hj_5]; rfl) hSh.2.1 c_113))) (by decide)).1, (by rw [(cp_no (cw2 c_1 c_4 (Or.inl (eb0 (by rw [hj_5]; rfl) hSh.2.1 c_113))) (by decide)).2]; exact hSh)⟩, rfl⟩ hP hD hS dX9_copy_62
          · replace c_113 := bI_f c_113
            refine lv_aload hx hb dX9_copy_47 (lv_at hl 0 rfl) ?_
            refine kR_i (As := []) (rest := []) (q0 := 18) ⟨hx, hb, hml, hown, hts⟩ (x_X6_isMissing18 l D cy a _ J (va_up I 10 (I 10)) O (va_up (va_up (va_up (va_up R 13 (R 13)) 15 (R 15)) 17 (R 17)) 19 (R 19)) RO LL Y   ) (cwV 0 hts gX9_copy_X6_isMissing rfl rfl rfl (by decide +kernel) ⟨Nat.le_of_ble_eq_true rfl, Nat.le_of_ble_eq_true rfl⟩) hK hN hP hD rfl rfl rfl hl.1 rfl (Nat.le_of_ble_eq_true rfl) dX9_copy_49 ⟨Nat.le_of_ble_eq_true rfl, Nat.le_of_ble_eq_true rfl⟩ ?_
            refine lv_if_eq (tgt := 63) hx hb dX9_copy_52 (by decide) (fun c_116 => ?_) (fun c_116 => ?_)
            · replace c_116 := bI_f c_116
              refine lv_aload hx hb dX9_copy_63 (lv_at hl 1 rfl) ?_
              refine va_get (D := D) (ci := 5) (v := .int (I 449)) (C := RX6) (T := TX6) (N := 3) hx hb hts hi6 hown hK hP 14 rfl rfl 1 (by decide) hw3 (fun _ h9 => h9) rfl dX9_copy_65 ?_
              refine lv_aload hx hb dX9_copy_68 (lv_at hl 0 rfl) ?_
              refine va_get (D := D) (ci := 5) (v := .int (I 577)) (C := RX6) (T := TX6) (N := 3) hx hb hts hi6 hown hK hP 18 rfl rfl 1 (by decide) hw3 (fun _ h9 => h9) rfl dX9_copy_70 ?_
              refine lv_icmp_eq (tgt := 83) hx hb dX9_copy_73 (by decide) (fun c_117 => ?_) (fun c_117 => ?_)
              · refine lv_aload hx hb dX9_copy_83 (lv_at hl 1 rfl) ?_
                refine lv_iload_n hx hb dX9_copy_85 rfl (lv_at hl 4 rfl) ?_
                refine lv_iload hx hb dX9_copy_86 (lv_at hl 7 rfl) ?_
                refine kR_i (As := [.int x1, .int x4]) (rest := []) (q0 := 14) ⟨hx, hb, hml, hown, hts⟩ (x_X6_hasRange14 l D cy a _ J (va_up I 10 (I 10)) O (va_up (va_up (va_up (va_up R 13 (R 13)) 15 (R 15)) 17 (R 17)) 19 (R 19)) RO LL Y x1 x4  ) (cwV 2 hts gX9_copy_X6_hasRange rfl rfl rfl (by decide +kernel) ⟨Nat.le_of_ble_eq_true rfl, Nat.le_of_ble_eq_true rfl⟩) hK hN hP hD rfl rfl rfl hl.1 rfl (Nat.le_of_ble_eq_true rfl) dX9_copy_88 ⟨Nat.le_of_ble_eq_true rfl, Nat.le_of_ble_eq_true rfl⟩ ?_
                refine lv_if_eq (tgt := 106) hx hb dX9_copy_91 (by decide) (fun c_118 => ?_) (fun c_118 => ?_)
                · replace c_118 := bI_f c_118
                  refine lv_aload_n hx hb dX9_copy_106 rfl (lv_at hl 2 rfl) ?_
                  refine lv_ldc (v := (-100001)) hx hb hown hw0 dX9_copy_107 ?_
                  refine kM_i (As := [.int (-100001)]) (rest := []) (q0 := 0) ⟨hx, hb, hml, hown, hts⟩ (t_X9_finding l D cy a _ J (va_up I 10 (I 10)) O (va_up (va_up (va_up (va_up R 13 (R 13)) 15 (R 15)) 17 (R 17)) 19 (R 19)) RO LL Y ((-100001) : Int32)   ) (cwV 1 hts gX9_copy_X9_finding rfl rfl rfl (by decide +kernel) ⟨Nat.le_of_ble_eq_true rfl, Nat.le_of_ble_eq_true rfl⟩) hK hN hP hD hS hA rfl rfl rfl hl.1 rfl (Nat.le_of_ble_eq_true rfl) dX9_copy_109 ⟨Nat.le_of_ble_eq_true rfl, Nat.le_of_ble_eq_true rfl⟩ (fun r_119 u H locs hw hP hD hS => ?_)
                  obtain ⟨w_120, rfl, rfl⟩ := hw
                  have hP : va_P D vwCl (CT cy a J (va_up I 10 w_120) O (va_up (va_up (va_up (va_up R 13 (R 13)) 15 (R 15)) 17 (R 17)) 19 (R 19)) RO (LL ++ Y)) H := hP
                  have hD : va_D A (CT cy a J (va_up I 10 w_120) O (va_up (va_up (va_up (va_up R 13 (R 13)) 15 (R 15)) 17 (R 17)) 19 (R 19)) RO (LL ++ Y)) := hD
                  exact wret_i hx hb hr hlocks (J, (va_up I 10 w_120), O, (va_up (va_up (va_up (va_up R 13 (R 13)) 15 (R 15)) 17 (R 17)) 19 (R 19)), RO, LL, Y) ⟨w_120, (R 13), (R 15), (R 17), (R 19), ⟨(cp_no (V := Vs) (cw4 c_1 c_4 (nb0 (by rw [hj_5]; rfl) hSh.2.1 c_113) (nb0 (by rw [hj_67]; rfl) hSh.2.2.2 c_116) (by rw [bq (by rw [hj_5]; rfl) hSh.2.1, bq (by rw [hj_67]; rfl) hSh.2.2.2]; exact c_117) (ck_f1 (by rw [hj_5]; rfl) hSh.2.1 c_118)) (by decide)).1, (by rw [(cp_no (cw4 c_1 c_4 (nb0 (by rw [hj_5]; rfl) hSh.2.1 c_113) (nb0 (by rw [hj_67]; rfl) hSh.2.2.2 c_116) (by rw [bq (by rw [hj_5]; rfl) hSh.2.1, bq (by rw [hj_67]; rfl) hSh.2.2.2]; exact c_117) (ck_f1 (by rw [hj_5]; rfl) hSh.2.1 c_118)) (by decide)).2]; exact hSh)⟩, rfl⟩ hP hD hS dX9_copy_112
                · replace c_118 := bI_t c_118
                  refine lv_aload hx hb dX9_copy_94 (lv_at hl 0 rfl) ?_
                  refine lv_iload hx hb dX9_copy_96 (lv_at hl 6 rfl) ?_
                  refine lv_iload hx hb dX9_copy_98 (lv_at hl 7 rfl) ?_
                  refine kR_i (As := [.int x3, .int x4]) (rest := []) (q0 := 18) ⟨hx, hb, hml, hown, hts⟩ (x_X6_hasRange18 l D cy a _ J (va_up I 10 (I 10)) O (va_up (va_up (va_up (va_up R 13 (R 13)) 15 (R 15)) 17 (R 17)) 19 (R 19)) RO LL Y x3 x4  ) (cwV 2 hts gX9_copy_X6_hasRange rfl rfl rfl (by decide +kernel) ⟨Nat.le_of_ble_eq_true rfl, Nat.le_of_ble_eq_true rfl⟩) hK hN hP hD rfl rfl rfl hl.1 rfl (Nat.le_of_ble_eq_true rfl) dX9_copy_100 ⟨Nat.le_of_ble_eq_true rfl, Nat.le_of_ble_eq_true rfl⟩ ?_
                  refine lv_if_ne (tgt := 113) hx hb dX9_copy_103 (by decide) (fun c_121 => ?_) (fun c_121 => ?_)
                  · replace c_121 := bI_t c_121
                    refine lv_aload hx hb dX9_copy_113 (lv_at hl 1 rfl) ?_
                    refine va_get (D := D) (ci := 5) (v := .ref (a 15)) (C := RX6) (T := TX6) (N := 3) hx hb hts hi6 hown hK hP 14 rfl rfl 0 (by decide) hw4 (fun _ h9 => h9) rfl dX9_copy_115 ?_
                    refine lv_iload_n hx hb dX9_copy_118 rfl (lv_at hl 4 rfl) ?_
                    refine lv_aload hx hb dX9_copy_119 (lv_at hl 0 rfl) ?_
                    refine va_get (D := D) (ci := 5) (v := .ref (a 19)) (C := RX6) (T := TX6) (N := 3) hx hb hts hi6 hown hK hP 18 rfl rfl 0 (by decide) hw4 (fun _ h9 => h9) rfl dX9_copy_121 ?_
                    refine lv_iload hx hb dX9_copy_124 (lv_at hl 6 rfl) ?_
                    refine lv_iload hx hb dX9_copy_126 (lv_at hl 7 rfl) ?_
                    refine va_copyi hx hb (by rw [hml]; exact hl.1.symm) hown hw5 hw6 hw7 hw8 hK hP hD hS 15 19 0 0 rfl rfl rfl rfl rfl (rng_hr hSh.2.1 c_118).1 (rng_hr hSh.2.2.2 c_121).1 (rng_hr hSh.2.1 c_118).2.1 (rng_hr hSh.2.1 c_118).2.2 (rng_hr hSh.2.2.2 c_121).2.2 (fun _ _ => rfl) (Nat.le_of_ble_eq_true rfl) (Nat.le_of_ble_eq_true rfl) dX9_copy_128 (fun H locs hP hD hS => ?_)
                    have hP : va_P D vwCl (CT cy a J (va_up I 10 (I 10)) O (va_up (va_up (va_up (va_up R 13 (R 13)) 15 (R 15)) 17 (R 17)) 19 (va_cpy (R 15) (R 19) x1.toNatClampNeg x3.toNatClampNeg x4.toNatClampNeg)) RO (LL ++ Y)) H := hP
                    have hD : va_D A (CT cy a J (va_up I 10 (I 10)) O (va_up (va_up (va_up (va_up R 13 (R 13)) 15 (R 15)) 17 (R 17)) 19 (va_cpy (R 15) (R 19) x1.toNatClampNeg x3.toNatClampNeg x4.toNatClampNeg)) RO (LL ++ Y)) := hD
                    refine lv_iload hx hb dX9_copy_131 (lv_at hl 7 rfl) ?_
                    exact wret_i hx hb hr hlocks (J, (va_up I 10 (I 10)), O, (va_up (va_up (va_up (va_up R 13 (R 13)) 15 (R 15)) 17 (R 17)) 19 (va_cpy (R 15) (R 19) x1.toNatClampNeg x3.toNatClampNeg x4.toNatClampNeg)), RO, LL, Y) ⟨(I 10), (R 13), (R 15), (R 17), (va_cpy (R 15) (R 19) x1.toNatClampNeg x3.toNatClampNeg x4.toNatClampNeg), ⟨(cp_yes (V := Vs) (cw5 c_1 c_4 (nb0 (by rw [hj_5]; rfl) hSh.2.1 c_113) (nb0 (by rw [hj_67]; rfl) hSh.2.2.2 c_116) (by rw [bq (by rw [hj_5]; rfl) hSh.2.1, bq (by rw [hj_67]; rfl) hSh.2.2.2]; exact c_117) (ck_t (by rw [hj_5]; rfl) hSh.2.1 (by rw [hj_67]; rfl) hSh.2.2.2 c_118 c_121))).1, (by rw [(cp_yes (cw5 c_1 c_4 (nb0 (by rw [hj_5]; rfl) hSh.2.1 c_113) (nb0 (by rw [hj_67]; rfl) hSh.2.2.2 c_116) (by rw [bq (by rw [hj_5]; rfl) hSh.2.1, bq (by rw [hj_67]; rfl) hSh.2.2.2]; exact c_117) (ck_t (by rw [hj_5]; rfl) hSh.2.1 (by rw [hj_67]; rfl) hSh.2.2.2 c_118 c_121))).2]; exact RCs_v3 (by rw [hj_67]; rfl) hSh (ck_v (by rw [hj_5]; rfl) hSh.2.1 (by rw [hj_67]; rfl) hSh.2.2.2 c_118 c_121))⟩, rfl⟩ hP hD hS dX9_copy_133
                  · replace c_121 := bI_f c_121
                    refine lv_aload_n hx hb dX9_copy_106 rfl (lv_at hl 2 rfl) ?_
                    refine lv_ldc (v := (-100001)) hx hb hown hw0 dX9_copy_107 ?_
                    refine kM_i (As := [.int (-100001)]) (rest := []) (q0 := 0) ⟨hx, hb, hml, hown, hts⟩ (t_X9_finding l D cy a _ J (va_up I 10 (I 10)) O (va_up (va_up (va_up (va_up R 13 (R 13)) 15 (R 15)) 17 (R 17)) 19 (R 19)) RO LL Y ((-100001) : Int32)   ) (cwV 1 hts gX9_copy_X9_finding rfl rfl rfl (by decide +kernel) ⟨Nat.le_of_ble_eq_true rfl, Nat.le_of_ble_eq_true rfl⟩) hK hN hP hD hS hA rfl rfl rfl hl.1 rfl (Nat.le_of_ble_eq_true rfl) dX9_copy_109 ⟨Nat.le_of_ble_eq_true rfl, Nat.le_of_ble_eq_true rfl⟩ (fun r_122 u H locs hw hP hD hS => ?_)
                    obtain ⟨w_123, rfl, rfl⟩ := hw
                    have hP : va_P D vwCl (CT cy a J (va_up I 10 w_123) O (va_up (va_up (va_up (va_up R 13 (R 13)) 15 (R 15)) 17 (R 17)) 19 (R 19)) RO (LL ++ Y)) H := hP
                    have hD : va_D A (CT cy a J (va_up I 10 w_123) O (va_up (va_up (va_up (va_up R 13 (R 13)) 15 (R 15)) 17 (R 17)) 19 (R 19)) RO (LL ++ Y)) := hD
                    exact wret_i hx hb hr hlocks (J, (va_up I 10 w_123), O, (va_up (va_up (va_up (va_up R 13 (R 13)) 15 (R 15)) 17 (R 17)) 19 (R 19)), RO, LL, Y) ⟨w_123, (R 13), (R 15), (R 17), (R 19), ⟨(cp_no (V := Vs) (cw4 c_1 c_4 (nb0 (by rw [hj_5]; rfl) hSh.2.1 c_113) (nb0 (by rw [hj_67]; rfl) hSh.2.2.2 c_116) (by rw [bq (by rw [hj_5]; rfl) hSh.2.1, bq (by rw [hj_67]; rfl) hSh.2.2.2]; exact c_117) (ck_f2 (by rw [hj_67]; rfl) hSh.2.2.2 c_121)) (by decide)).1, (by rw [(cp_no (cw4 c_1 c_4 (nb0 (by rw [hj_5]; rfl) hSh.2.1 c_113) (nb0 (by rw [hj_67]; rfl) hSh.2.2.2 c_116) (by rw [bq (by rw [hj_5]; rfl) hSh.2.1, bq (by rw [hj_67]; rfl) hSh.2.2.2]; exact c_117) (ck_f2 (by rw [hj_67]; rfl) hSh.2.2.2 c_121)) (by decide)).2]; exact hSh)⟩, rfl⟩ hP hD hS dX9_copy_112
              · refine lv_aload_n hx hb dX9_copy_76 rfl (lv_at hl 2 rfl) ?_
                refine lv_ldc (v := (-100004)) hx hb hown hw9 dX9_copy_77 ?_
                refine kM_i (As := [.int (-100004)]) (rest := []) (q0 := 0) ⟨hx, hb, hml, hown, hts⟩ (t_X9_finding l D cy a _ J (va_up I 10 (I 10)) O (va_up (va_up (va_up (va_up R 13 (R 13)) 15 (R 15)) 17 (R 17)) 19 (R 19)) RO LL Y ((-100004) : Int32)   ) (cwV 1 hts gX9_copy_X9_finding rfl rfl rfl (by decide +kernel) ⟨Nat.le_of_ble_eq_true rfl, Nat.le_of_ble_eq_true rfl⟩) hK hN hP hD hS hA rfl rfl rfl hl.1 rfl (Nat.le_of_ble_eq_true rfl) dX9_copy_79 ⟨Nat.le_of_ble_eq_true rfl, Nat.le_of_ble_eq_true rfl⟩ (fun r_124 u H locs hw hP hD hS => ?_)
                obtain ⟨w_125, rfl, rfl⟩ := hw
                have hP : va_P D vwCl (CT cy a J (va_up I 10 w_125) O (va_up (va_up (va_up (va_up R 13 (R 13)) 15 (R 15)) 17 (R 17)) 19 (R 19)) RO (LL ++ Y)) H := hP
                have hD : va_D A (CT cy a J (va_up I 10 w_125) O (va_up (va_up (va_up (va_up R 13 (R 13)) 15 (R 15)) 17 (R 17)) 19 (R 19)) RO (LL ++ Y)) := hD
                exact wret_i hx hb hr hlocks (J, (va_up I 10 w_125), O, (va_up (va_up (va_up (va_up R 13 (R 13)) 15 (R 15)) 17 (R 17)) 19 (R 19)), RO, LL, Y) ⟨w_125, (R 13), (R 15), (R 17), (R 19), ⟨(cp_no (V := Vs) (cw3 c_1 c_4 (nb0 (by rw [hj_5]; rfl) hSh.2.1 c_113) (nb0 (by rw [hj_67]; rfl) hSh.2.2.2 c_116) (by rw [bq (by rw [hj_5]; rfl) hSh.2.1, bq (by rw [hj_67]; rfl) hSh.2.2.2]; exact c_117)) (by decide)).1, (by rw [(cp_no (cw3 c_1 c_4 (nb0 (by rw [hj_5]; rfl) hSh.2.1 c_113) (nb0 (by rw [hj_67]; rfl) hSh.2.2.2 c_116) (by rw [bq (by rw [hj_5]; rfl) hSh.2.1, bq (by rw [hj_67]; rfl) hSh.2.2.2]; exact c_117)) (by decide)).2]; exact hSh)⟩, rfl⟩ hP hD hS dX9_copy_82
            · replace c_116 := bI_t c_116
              refine lv_aload_n hx hb dX9_copy_55 rfl (lv_at hl 2 rfl) ?_
              refine lv_ldcw (v := (-100002)) hx hb hown hw2 dX9_copy_56 ?_
              refine kM_i (As := [.int (-100002)]) (rest := []) (q0 := 0) ⟨hx, hb, hml, hown, hts⟩ (t_X9_finding l D cy a _ J (va_up I 10 (I 10)) O (va_up (va_up (va_up (va_up R 13 (R 13)) 15 (R 15)) 17 (R 17)) 19 (R 19)) RO LL Y ((-100002) : Int32)   ) (cwV 1 hts gX9_copy_X9_finding rfl rfl rfl (by decide +kernel) ⟨Nat.le_of_ble_eq_true rfl, Nat.le_of_ble_eq_true rfl⟩) hK hN hP hD hS hA rfl rfl rfl hl.1 rfl (Nat.le_of_ble_eq_true rfl) dX9_copy_59 ⟨Nat.le_of_ble_eq_true rfl, Nat.le_of_ble_eq_true rfl⟩ (fun r_126 u H locs hw hP hD hS => ?_)
              obtain ⟨w_127, rfl, rfl⟩ := hw
              have hP : va_P D vwCl (CT cy a J (va_up I 10 w_127) O (va_up (va_up (va_up (va_up R 13 (R 13)) 15 (R 15)) 17 (R 17)) 19 (R 19)) RO (LL ++ Y)) H := hP
              have hD : va_D A (CT cy a J (va_up I 10 w_127) O (va_up (va_up (va_up (va_up R 13 (R 13)) 15 (R 15)) 17 (R 17)) 19 (R 19)) RO (LL ++ Y)) := hD
              exact wret_i hx hb hr hlocks (J, (va_up I 10 w_127), O, (va_up (va_up (va_up (va_up R 13 (R 13)) 15 (R 15)) 17 (R 17)) 19 (R 19)), RO, LL, Y) ⟨w_127, (R 13), (R 15), (R 17), (R 19), ⟨(cp_no (V := Vs) (cw2 c_1 c_4 (Or.inr (eb0 (by rw [hj_67]; rfl) hSh.2.2.2 c_116))) (by decide)).1, (by rw [(cp_no (cw2 c_1 c_4 (Or.inr (eb0 (by rw [hj_67]; rfl) hSh.2.2.2 c_116))) (by decide)).2]; exact hSh)⟩, rfl⟩ hP hD hS dX9_copy_62
      · refine wtop_v (y := .ref (a 16)) (by rw [hj_5]; exact congrArg va_rf hRO2) ?_
        refine lv_astore (lv' := [(6, .ref (a 16)), (0, .ref (a 0)), (1, .int x0), (2, .int x1), (3, .int x2), (4, .int x3), (5, .int x4)]) hx hb dX9_copy_29 hl (by decide) rfl (fun ls hl => ?_)
        refine lv_aload_n hx hb dX9_copy_31 rfl (lv_at hl 1 rfl) ?_
        refine va_get (D := D) (ci := 8) (v := .ref (a 1)) (C := RX9) (T := TX9) (N := 11) hx hb hts hi9 hown hK hP 0 rfl rfl 0 (by decide) hw1 (fun _ h9 => h9) rfl dX9_copy_32 ?_
        refine lv_iload_n hx hb dX9_copy_35 rfl (lv_at hl 4 rfl) ?_
        refine va_aldq hx hb hK hP 1 4 rfl rfl (within_in4 c_4) dX9_copy_36 ?_
        rcases in4 (within_in4 c_4) with hj_128 | hj_128 | hj_128 | hj_128
        · refine wtop_v (y := .ref (a 12)) (by rw [hj_128]; exact congrArg va_rf hRO0) ?_
          refine lv_astore (lv' := [(7, .ref (a 12)), (6, .ref (a 16)), (0, .ref (a 0)), (1, .int x0), (2, .int x1), (3, .int x2), (4, .int x3), (5, .int x4)]) hx hb dX9_copy_37 hl (by decide) rfl (fun ls hl => ?_)
          refine lv_aload hx hb dX9_copy_39 (lv_at hl 1 rfl) ?_
          refine kR_i (As := []) (rest := []) (q0 := 16) ⟨hx, hb, hml, hown, hts⟩ (x_X6_isMissing16 l D cy a _ J (va_up I 10 (I 10)) O (va_up (va_up (va_up (va_up R 13 (R 13)) 15 (R 15)) 17 (R 17)) 19 (R 19)) RO LL Y   ) (cwV 0 hts gX9_copy_X6_isMissing rfl rfl rfl (by decide +kernel) ⟨Nat.le_of_ble_eq_true rfl, Nat.le_of_ble_eq_true rfl⟩) hK hN hP hD rfl rfl rfl hl.1 rfl (Nat.le_of_ble_eq_true rfl) dX9_copy_41 ⟨Nat.le_of_ble_eq_true rfl, Nat.le_of_ble_eq_true rfl⟩ ?_
          refine lv_if_ne (tgt := 55) hx hb dX9_copy_44 (by decide) (fun c_129 => ?_) (fun c_129 => ?_)
          · replace c_129 := bI_t c_129
            refine lv_aload_n hx hb dX9_copy_55 rfl (lv_at hl 2 rfl) ?_
            refine lv_ldcw (v := (-100002)) hx hb hown hw2 dX9_copy_56 ?_
            refine kM_i (As := [.int (-100002)]) (rest := []) (q0 := 0) ⟨hx, hb, hml, hown, hts⟩ (t_X9_finding l D cy a _ J (va_up I 10 (I 10)) O (va_up (va_up (va_up (va_up R 13 (R 13)) 15 (R 15)) 17 (R 17)) 19 (R 19)) RO LL Y ((-100002) : Int32)   ) (cwV 1 hts gX9_copy_X9_finding rfl rfl rfl (by decide +kernel) ⟨Nat.le_of_ble_eq_true rfl, Nat.le_of_ble_eq_true rfl⟩) hK hN hP hD hS hA rfl rfl rfl hl.1 rfl (Nat.le_of_ble_eq_true rfl) dX9_copy_59 ⟨Nat.le_of_ble_eq_true rfl, Nat.le_of_ble_eq_true rfl⟩ (fun r_130 u H locs hw hP hD hS => ?_)
            obtain ⟨w_131, rfl, rfl⟩ := hw
            have hP : va_P D vwCl (CT cy a J (va_up I 10 w_131) O (va_up (va_up (va_up (va_up R 13 (R 13)) 15 (R 15)) 17 (R 17)) 19 (R 19)) RO (LL ++ Y)) H := hP
            have hD : va_D A (CT cy a J (va_up I 10 w_131) O (va_up (va_up (va_up (va_up R 13 (R 13)) 15 (R 15)) 17 (R 17)) 19 (R 19)) RO (LL ++ Y)) := hD
            exact wret_i hx hb hr hlocks (J, (va_up I 10 w_131), O, (va_up (va_up (va_up (va_up R 13 (R 13)) 15 (R 15)) 17 (R 17)) 19 (R 19)), RO, LL, Y) ⟨w_131, (R 13), (R 15), (R 17), (R 19), ⟨(cp_no (V := Vs) (cw2 c_1 c_4 (Or.inl (eb0 (by rw [hj_5]; rfl) hSh.2.2.1 c_129))) (by decide)).1, (by rw [(cp_no (cw2 c_1 c_4 (Or.inl (eb0 (by rw [hj_5]; rfl) hSh.2.2.1 c_129))) (by decide)).2]; exact hSh)⟩, rfl⟩ hP hD hS dX9_copy_62
          · replace c_129 := bI_f c_129
            refine lv_aload hx hb dX9_copy_47 (lv_at hl 0 rfl) ?_
            refine kR_i (As := []) (rest := []) (q0 := 12) ⟨hx, hb, hml, hown, hts⟩ (x_X6_isMissing12 l D cy a _ J (va_up I 10 (I 10)) O (va_up (va_up (va_up (va_up R 13 (R 13)) 15 (R 15)) 17 (R 17)) 19 (R 19)) RO LL Y   ) (cwV 0 hts gX9_copy_X6_isMissing rfl rfl rfl (by decide +kernel) ⟨Nat.le_of_ble_eq_true rfl, Nat.le_of_ble_eq_true rfl⟩) hK hN hP hD rfl rfl rfl hl.1 rfl (Nat.le_of_ble_eq_true rfl) dX9_copy_49 ⟨Nat.le_of_ble_eq_true rfl, Nat.le_of_ble_eq_true rfl⟩ ?_
            refine lv_if_eq (tgt := 63) hx hb dX9_copy_52 (by decide) (fun c_132 => ?_) (fun c_132 => ?_)
            · replace c_132 := bI_f c_132
              refine lv_aload hx hb dX9_copy_63 (lv_at hl 1 rfl) ?_
              refine va_get (D := D) (ci := 5) (v := .int (I 513)) (C := RX6) (T := TX6) (N := 3) hx hb hts hi6 hown hK hP 16 rfl rfl 1 (by decide) hw3 (fun _ h9 => h9) rfl dX9_copy_65 ?_
              refine lv_aload hx hb dX9_copy_68 (lv_at hl 0 rfl) ?_
              refine va_get (D := D) (ci := 5) (v := .int (I 385)) (C := RX6) (T := TX6) (N := 3) hx hb hts hi6 hown hK hP 12 rfl rfl 1 (by decide) hw3 (fun _ h9 => h9) rfl dX9_copy_70 ?_
              refine lv_icmp_eq (tgt := 83) hx hb dX9_copy_73 (by decide) (fun c_133 => ?_) (fun c_133 => ?_)
              · refine lv_aload hx hb dX9_copy_83 (lv_at hl 1 rfl) ?_
                refine lv_iload_n hx hb dX9_copy_85 rfl (lv_at hl 4 rfl) ?_
                refine lv_iload hx hb dX9_copy_86 (lv_at hl 7 rfl) ?_
                refine kR_i (As := [.int x1, .int x4]) (rest := []) (q0 := 16) ⟨hx, hb, hml, hown, hts⟩ (x_X6_hasRange16 l D cy a _ J (va_up I 10 (I 10)) O (va_up (va_up (va_up (va_up R 13 (R 13)) 15 (R 15)) 17 (R 17)) 19 (R 19)) RO LL Y x1 x4  ) (cwV 2 hts gX9_copy_X6_hasRange rfl rfl rfl (by decide +kernel) ⟨Nat.le_of_ble_eq_true rfl, Nat.le_of_ble_eq_true rfl⟩) hK hN hP hD rfl rfl rfl hl.1 rfl (Nat.le_of_ble_eq_true rfl) dX9_copy_88 ⟨Nat.le_of_ble_eq_true rfl, Nat.le_of_ble_eq_true rfl⟩ ?_
                refine lv_if_eq (tgt := 106) hx hb dX9_copy_91 (by decide) (fun c_134 => ?_) (fun c_134 => ?_)
                · replace c_134 := bI_f c_134
                  refine lv_aload_n hx hb dX9_copy_106 rfl (lv_at hl 2 rfl) ?_
                  refine lv_ldc (v := (-100001)) hx hb hown hw0 dX9_copy_107 ?_
                  refine kM_i (As := [.int (-100001)]) (rest := []) (q0 := 0) ⟨hx, hb, hml, hown, hts⟩ (t_X9_finding l D cy a _ J (va_up I 10 (I 10)) O (va_up (va_up (va_up (va_up R 13 (R 13)) 15 (R 15)) 17 (R 17)) 19 (R 19)) RO LL Y ((-100001) : Int32)   ) (cwV 1 hts gX9_copy_X9_finding rfl rfl rfl (by decide +kernel) ⟨Nat.le_of_ble_eq_true rfl, Nat.le_of_ble_eq_true rfl⟩) hK hN hP hD hS hA rfl rfl rfl hl.1 rfl (Nat.le_of_ble_eq_true rfl) dX9_copy_109 ⟨Nat.le_of_ble_eq_true rfl, Nat.le_of_ble_eq_true rfl⟩ (fun r_135 u H locs hw hP hD hS => ?_)
                  obtain ⟨w_136, rfl, rfl⟩ := hw
                  have hP : va_P D vwCl (CT cy a J (va_up I 10 w_136) O (va_up (va_up (va_up (va_up R 13 (R 13)) 15 (R 15)) 17 (R 17)) 19 (R 19)) RO (LL ++ Y)) H := hP
                  have hD : va_D A (CT cy a J (va_up I 10 w_136) O (va_up (va_up (va_up (va_up R 13 (R 13)) 15 (R 15)) 17 (R 17)) 19 (R 19)) RO (LL ++ Y)) := hD
                  exact wret_i hx hb hr hlocks (J, (va_up I 10 w_136), O, (va_up (va_up (va_up (va_up R 13 (R 13)) 15 (R 15)) 17 (R 17)) 19 (R 19)), RO, LL, Y) ⟨w_136, (R 13), (R 15), (R 17), (R 19), ⟨(cp_no (V := Vs) (cw4 c_1 c_4 (nb0 (by rw [hj_5]; rfl) hSh.2.2.1 c_129) (nb0 (by rw [hj_128]; rfl) hSh.1 c_132) (by rw [bq (by rw [hj_5]; rfl) hSh.2.2.1, bq (by rw [hj_128]; rfl) hSh.1]; exact c_133) (ck_f1 (by rw [hj_5]; rfl) hSh.2.2.1 c_134)) (by decide)).1, (by rw [(cp_no (cw4 c_1 c_4 (nb0 (by rw [hj_5]; rfl) hSh.2.2.1 c_129) (nb0 (by rw [hj_128]; rfl) hSh.1 c_132) (by rw [bq (by rw [hj_5]; rfl) hSh.2.2.1, bq (by rw [hj_128]; rfl) hSh.1]; exact c_133) (ck_f1 (by rw [hj_5]; rfl) hSh.2.2.1 c_134)) (by decide)).2]; exact hSh)⟩, rfl⟩ hP hD hS dX9_copy_112
                · replace c_134 := bI_t c_134
                  refine lv_aload hx hb dX9_copy_94 (lv_at hl 0 rfl) ?_
                  refine lv_iload hx hb dX9_copy_96 (lv_at hl 6 rfl) ?_
                  refine lv_iload hx hb dX9_copy_98 (lv_at hl 7 rfl) ?_
                  refine kR_i (As := [.int x3, .int x4]) (rest := []) (q0 := 12) ⟨hx, hb, hml, hown, hts⟩ (x_X6_hasRange12 l D cy a _ J (va_up I 10 (I 10)) O (va_up (va_up (va_up (va_up R 13 (R 13)) 15 (R 15)) 17 (R 17)) 19 (R 19)) RO LL Y x3 x4  ) (cwV 2 hts gX9_copy_X6_hasRange rfl rfl rfl (by decide +kernel) ⟨Nat.le_of_ble_eq_true rfl, Nat.le_of_ble_eq_true rfl⟩) hK hN hP hD rfl rfl rfl hl.1 rfl (Nat.le_of_ble_eq_true rfl) dX9_copy_100 ⟨Nat.le_of_ble_eq_true rfl, Nat.le_of_ble_eq_true rfl⟩ ?_
                  refine lv_if_ne (tgt := 113) hx hb dX9_copy_103 (by decide) (fun c_137 => ?_) (fun c_137 => ?_)
                  · replace c_137 := bI_t c_137
                    refine lv_aload hx hb dX9_copy_113 (lv_at hl 1 rfl) ?_
                    refine va_get (D := D) (ci := 5) (v := .ref (a 17)) (C := RX6) (T := TX6) (N := 3) hx hb hts hi6 hown hK hP 16 rfl rfl 0 (by decide) hw4 (fun _ h9 => h9) rfl dX9_copy_115 ?_
                    refine lv_iload_n hx hb dX9_copy_118 rfl (lv_at hl 4 rfl) ?_
                    refine lv_aload hx hb dX9_copy_119 (lv_at hl 0 rfl) ?_
                    refine va_get (D := D) (ci := 5) (v := .ref (a 13)) (C := RX6) (T := TX6) (N := 3) hx hb hts hi6 hown hK hP 12 rfl rfl 0 (by decide) hw4 (fun _ h9 => h9) rfl dX9_copy_121 ?_
                    refine lv_iload hx hb dX9_copy_124 (lv_at hl 6 rfl) ?_
                    refine lv_iload hx hb dX9_copy_126 (lv_at hl 7 rfl) ?_
                    refine va_copyi hx hb (by rw [hml]; exact hl.1.symm) hown hw5 hw6 hw7 hw8 hK hP hD hS 17 13 0 0 rfl rfl rfl rfl rfl (rng_hr hSh.2.2.1 c_134).1 (rng_hr hSh.1 c_137).1 (rng_hr hSh.2.2.1 c_134).2.1 (rng_hr hSh.2.2.1 c_134).2.2 (rng_hr hSh.1 c_137).2.2 (fun _ _ => rfl) (Nat.le_of_ble_eq_true rfl) (Nat.le_of_ble_eq_true rfl) dX9_copy_128 (fun H locs hP hD hS => ?_)
                    have hP : va_P D vwCl (CT cy a J (va_up I 10 (I 10)) O (va_up (va_up (va_up (va_up R 13 (va_cpy (R 17) (R 13) x1.toNatClampNeg x3.toNatClampNeg x4.toNatClampNeg)) 15 (R 15)) 17 (R 17)) 19 (R 19)) RO (LL ++ Y)) H := hP
                    have hD : va_D A (CT cy a J (va_up I 10 (I 10)) O (va_up (va_up (va_up (va_up R 13 (va_cpy (R 17) (R 13) x1.toNatClampNeg x3.toNatClampNeg x4.toNatClampNeg)) 15 (R 15)) 17 (R 17)) 19 (R 19)) RO (LL ++ Y)) := hD
                    refine lv_iload hx hb dX9_copy_131 (lv_at hl 7 rfl) ?_
                    exact wret_i hx hb hr hlocks (J, (va_up I 10 (I 10)), O, (va_up (va_up (va_up (va_up R 13 (va_cpy (R 17) (R 13) x1.toNatClampNeg x3.toNatClampNeg x4.toNatClampNeg)) 15 (R 15)) 17 (R 17)) 19 (R 19)), RO, LL, Y) ⟨(I 10), (va_cpy (R 17) (R 13) x1.toNatClampNeg x3.toNatClampNeg x4.toNatClampNeg), (R 15), (R 17), (R 19), ⟨(cp_yes (V := Vs) (cw5 c_1 c_4 (nb0 (by rw [hj_5]; rfl) hSh.2.2.1 c_129) (nb0 (by rw [hj_128]; rfl) hSh.1 c_132) (by rw [bq (by rw [hj_5]; rfl) hSh.2.2.1, bq (by rw [hj_128]; rfl) hSh.1]; exact c_133) (ck_t (by rw [hj_5]; rfl) hSh.2.2.1 (by rw [hj_128]; rfl) hSh.1 c_134 c_137))).1, (by rw [(cp_yes (cw5 c_1 c_4 (nb0 (by rw [hj_5]; rfl) hSh.2.2.1 c_129) (nb0 (by rw [hj_128]; rfl) hSh.1 c_132) (by rw [bq (by rw [hj_5]; rfl) hSh.2.2.1, bq (by rw [hj_128]; rfl) hSh.1]; exact c_133) (ck_t (by rw [hj_5]; rfl) hSh.2.2.1 (by rw [hj_128]; rfl) hSh.1 c_134 c_137))).2]; exact RCs_v0 (by rw [hj_128]; rfl) hSh (ck_v (by rw [hj_5]; rfl) hSh.2.2.1 (by rw [hj_128]; rfl) hSh.1 c_134 c_137))⟩, rfl⟩ hP hD hS dX9_copy_133
                  · replace c_137 := bI_f c_137
                    refine lv_aload_n hx hb dX9_copy_106 rfl (lv_at hl 2 rfl) ?_
                    refine lv_ldc (v := (-100001)) hx hb hown hw0 dX9_copy_107 ?_
                    refine kM_i (As := [.int (-100001)]) (rest := []) (q0 := 0) ⟨hx, hb, hml, hown, hts⟩ (t_X9_finding l D cy a _ J (va_up I 10 (I 10)) O (va_up (va_up (va_up (va_up R 13 (R 13)) 15 (R 15)) 17 (R 17)) 19 (R 19)) RO LL Y ((-100001) : Int32)   ) (cwV 1 hts gX9_copy_X9_finding rfl rfl rfl (by decide +kernel) ⟨Nat.le_of_ble_eq_true rfl, Nat.le_of_ble_eq_true rfl⟩) hK hN hP hD hS hA rfl rfl rfl hl.1 rfl (Nat.le_of_ble_eq_true rfl) dX9_copy_109 ⟨Nat.le_of_ble_eq_true rfl, Nat.le_of_ble_eq_true rfl⟩ (fun r_138 u H locs hw hP hD hS => ?_)
                    obtain ⟨w_139, rfl, rfl⟩ := hw
                    have hP : va_P D vwCl (CT cy a J (va_up I 10 w_139) O (va_up (va_up (va_up (va_up R 13 (R 13)) 15 (R 15)) 17 (R 17)) 19 (R 19)) RO (LL ++ Y)) H := hP
                    have hD : va_D A (CT cy a J (va_up I 10 w_139) O (va_up (va_up (va_up (va_up R 13 (R 13)) 15 (R 15)) 17 (R 17)) 19 (R 19)) RO (LL ++ Y)) := hD
                    exact wret_i hx hb hr hlocks (J, (va_up I 10 w_139), O, (va_up (va_up (va_up (va_up R 13 (R 13)) 15 (R 15)) 17 (R 17)) 19 (R 19)), RO, LL, Y) ⟨w_139, (R 13), (R 15), (R 17), (R 19), ⟨(cp_no (V := Vs) (cw4 c_1 c_4 (nb0 (by rw [hj_5]; rfl) hSh.2.2.1 c_129) (nb0 (by rw [hj_128]; rfl) hSh.1 c_132) (by rw [bq (by rw [hj_5]; rfl) hSh.2.2.1, bq (by rw [hj_128]; rfl) hSh.1]; exact c_133) (ck_f2 (by rw [hj_128]; rfl) hSh.1 c_137)) (by decide)).1, (by rw [(cp_no (cw4 c_1 c_4 (nb0 (by rw [hj_5]; rfl) hSh.2.2.1 c_129) (nb0 (by rw [hj_128]; rfl) hSh.1 c_132) (by rw [bq (by rw [hj_5]; rfl) hSh.2.2.1, bq (by rw [hj_128]; rfl) hSh.1]; exact c_133) (ck_f2 (by rw [hj_128]; rfl) hSh.1 c_137)) (by decide)).2]; exact hSh)⟩, rfl⟩ hP hD hS dX9_copy_112
              · refine lv_aload_n hx hb dX9_copy_76 rfl (lv_at hl 2 rfl) ?_
                refine lv_ldc (v := (-100004)) hx hb hown hw9 dX9_copy_77 ?_
                refine kM_i (As := [.int (-100004)]) (rest := []) (q0 := 0) ⟨hx, hb, hml, hown, hts⟩ (t_X9_finding l D cy a _ J (va_up I 10 (I 10)) O (va_up (va_up (va_up (va_up R 13 (R 13)) 15 (R 15)) 17 (R 17)) 19 (R 19)) RO LL Y ((-100004) : Int32)   ) (cwV 1 hts gX9_copy_X9_finding rfl rfl rfl (by decide +kernel) ⟨Nat.le_of_ble_eq_true rfl, Nat.le_of_ble_eq_true rfl⟩) hK hN hP hD hS hA rfl rfl rfl hl.1 rfl (Nat.le_of_ble_eq_true rfl) dX9_copy_79 ⟨Nat.le_of_ble_eq_true rfl, Nat.le_of_ble_eq_true rfl⟩ (fun r_140 u H locs hw hP hD hS => ?_)
                obtain ⟨w_141, rfl, rfl⟩ := hw
                have hP : va_P D vwCl (CT cy a J (va_up I 10 w_141) O (va_up (va_up (va_up (va_up R 13 (R 13)) 15 (R 15)) 17 (R 17)) 19 (R 19)) RO (LL ++ Y)) H := hP
                have hD : va_D A (CT cy a J (va_up I 10 w_141) O (va_up (va_up (va_up (va_up R 13 (R 13)) 15 (R 15)) 17 (R 17)) 19 (R 19)) RO (LL ++ Y)) := hD
                exact wret_i hx hb hr hlocks (J, (va_up I 10 w_141), O, (va_up (va_up (va_up (va_up R 13 (R 13)) 15 (R 15)) 17 (R 17)) 19 (R 19)), RO, LL, Y) ⟨w_141, (R 13), (R 15), (R 17), (R 19), ⟨(cp_no (V := Vs) (cw3 c_1 c_4 (nb0 (by rw [hj_5]; rfl) hSh.2.2.1 c_129) (nb0 (by rw [hj_128]; rfl) hSh.1 c_132) (by rw [bq (by rw [hj_5]; rfl) hSh.2.2.1, bq (by rw [hj_128]; rfl) hSh.1]; exact c_133)) (by decide)).1, (by rw [(cp_no (cw3 c_1 c_4 (nb0 (by rw [hj_5]; rfl) hSh.2.2.1 c_129) (nb0 (by rw [hj_128]; rfl) hSh.1 c_132) (by rw [bq (by rw [hj_5]; rfl) hSh.2.2.1, bq (by rw [hj_128]; rfl) hSh.1]; exact c_133)) (by decide)).2]; exact hSh)⟩, rfl⟩ hP hD hS dX9_copy_82
            · replace c_132 := bI_t c_132
              refine lv_aload_n hx hb dX9_copy_55 rfl (lv_at hl 2 rfl) ?_
              refine lv_ldcw (v := (-100002)) hx hb hown hw2 dX9_copy_56 ?_
              refine kM_i (As := [.int (-100002)]) (rest := []) (q0 := 0) ⟨hx, hb, hml, hown, hts⟩ (t_X9_finding l D cy a _ J (va_up I 10 (I 10)) O (va_up (va_up (va_up (va_up R 13 (R 13)) 15 (R 15)) 17 (R 17)) 19 (R 19)) RO LL Y ((-100002) : Int32)   ) (cwV 1 hts gX9_copy_X9_finding rfl rfl rfl (by decide +kernel) ⟨Nat.le_of_ble_eq_true rfl, Nat.le_of_ble_eq_true rfl⟩) hK hN hP hD hS hA rfl rfl rfl hl.1 rfl (Nat.le_of_ble_eq_true rfl) dX9_copy_59 ⟨Nat.le_of_ble_eq_true rfl, Nat.le_of_ble_eq_true rfl⟩ (fun r_142 u H locs hw hP hD hS => ?_)
              obtain ⟨w_143, rfl, rfl⟩ := hw
              have hP : va_P D vwCl (CT cy a J (va_up I 10 w_143) O (va_up (va_up (va_up (va_up R 13 (R 13)) 15 (R 15)) 17 (R 17)) 19 (R 19)) RO (LL ++ Y)) H := hP
              have hD : va_D A (CT cy a J (va_up I 10 w_143) O (va_up (va_up (va_up (va_up R 13 (R 13)) 15 (R 15)) 17 (R 17)) 19 (R 19)) RO (LL ++ Y)) := hD
              exact wret_i hx hb hr hlocks (J, (va_up I 10 w_143), O, (va_up (va_up (va_up (va_up R 13 (R 13)) 15 (R 15)) 17 (R 17)) 19 (R 19)), RO, LL, Y) ⟨w_143, (R 13), (R 15), (R 17), (R 19), ⟨(cp_no (V := Vs) (cw2 c_1 c_4 (Or.inr (eb0 (by rw [hj_128]; rfl) hSh.1 c_132))) (by decide)).1, (by rw [(cp_no (cw2 c_1 c_4 (Or.inr (eb0 (by rw [hj_128]; rfl) hSh.1 c_132))) (by decide)).2]; exact hSh)⟩, rfl⟩ hP hD hS dX9_copy_62
        · refine wtop_v (y := .ref (a 14)) (by rw [hj_128]; exact congrArg va_rf hRO1) ?_
          refine lv_astore (lv' := [(7, .ref (a 14)), (6, .ref (a 16)), (0, .ref (a 0)), (1, .int x0), (2, .int x1), (3, .int x2), (4, .int x3), (5, .int x4)]) hx hb dX9_copy_37 hl (by decide) rfl (fun ls hl => ?_)
          refine lv_aload hx hb dX9_copy_39 (lv_at hl 1 rfl) ?_
          refine kR_i (As := []) (rest := []) (q0 := 16) ⟨hx, hb, hml, hown, hts⟩ (x_X6_isMissing16 l D cy a _ J (va_up I 10 (I 10)) O (va_up (va_up (va_up (va_up R 13 (R 13)) 15 (R 15)) 17 (R 17)) 19 (R 19)) RO LL Y   ) (cwV 0 hts gX9_copy_X6_isMissing rfl rfl rfl (by decide +kernel) ⟨Nat.le_of_ble_eq_true rfl, Nat.le_of_ble_eq_true rfl⟩) hK hN hP hD rfl rfl rfl hl.1 rfl (Nat.le_of_ble_eq_true rfl) dX9_copy_41 ⟨Nat.le_of_ble_eq_true rfl, Nat.le_of_ble_eq_true rfl⟩ ?_
          refine lv_if_ne (tgt := 55) hx hb dX9_copy_44 (by decide) (fun c_144 => ?_) (fun c_144 => ?_)
          · replace c_144 := bI_t c_144
            refine lv_aload_n hx hb dX9_copy_55 rfl (lv_at hl 2 rfl) ?_
            refine lv_ldcw (v := (-100002)) hx hb hown hw2 dX9_copy_56 ?_
            refine kM_i (As := [.int (-100002)]) (rest := []) (q0 := 0) ⟨hx, hb, hml, hown, hts⟩ (t_X9_finding l D cy a _ J (va_up I 10 (I 10)) O (va_up (va_up (va_up (va_up R 13 (R 13)) 15 (R 15)) 17 (R 17)) 19 (R 19)) RO LL Y ((-100002) : Int32)   ) (cwV 1 hts gX9_copy_X9_finding rfl rfl rfl (by decide +kernel) ⟨Nat.le_of_ble_eq_true rfl, Nat.le_of_ble_eq_true rfl⟩) hK hN hP hD hS hA rfl rfl rfl hl.1 rfl (Nat.le_of_ble_eq_true rfl) dX9_copy_59 ⟨Nat.le_of_ble_eq_true rfl, Nat.le_of_ble_eq_true rfl⟩ (fun r_145 u H locs hw hP hD hS => ?_)
            obtain ⟨w_146, rfl, rfl⟩ := hw
            have hP : va_P D vwCl (CT cy a J (va_up I 10 w_146) O (va_up (va_up (va_up (va_up R 13 (R 13)) 15 (R 15)) 17 (R 17)) 19 (R 19)) RO (LL ++ Y)) H := hP
            have hD : va_D A (CT cy a J (va_up I 10 w_146) O (va_up (va_up (va_up (va_up R 13 (R 13)) 15 (R 15)) 17 (R 17)) 19 (R 19)) RO (LL ++ Y)) := hD
            exact wret_i hx hb hr hlocks (J, (va_up I 10 w_146), O, (va_up (va_up (va_up (va_up R 13 (R 13)) 15 (R 15)) 17 (R 17)) 19 (R 19)), RO, LL, Y) ⟨w_146, (R 13), (R 15), (R 17), (R 19), ⟨(cp_no (V := Vs) (cw2 c_1 c_4 (Or.inl (eb0 (by rw [hj_5]; rfl) hSh.2.2.1 c_144))) (by decide)).1, (by rw [(cp_no (cw2 c_1 c_4 (Or.inl (eb0 (by rw [hj_5]; rfl) hSh.2.2.1 c_144))) (by decide)).2]; exact hSh)⟩, rfl⟩ hP hD hS dX9_copy_62
          · replace c_144 := bI_f c_144
            refine lv_aload hx hb dX9_copy_47 (lv_at hl 0 rfl) ?_
            refine kR_i (As := []) (rest := []) (q0 := 14) ⟨hx, hb, hml, hown, hts⟩ (x_X6_isMissing14 l D cy a _ J (va_up I 10 (I 10)) O (va_up (va_up (va_up (va_up R 13 (R 13)) 15 (R 15)) 17 (R 17)) 19 (R 19)) RO LL Y   ) (cwV 0 hts gX9_copy_X6_isMissing rfl rfl rfl (by decide +kernel) ⟨Nat.le_of_ble_eq_true rfl, Nat.le_of_ble_eq_true rfl⟩) hK hN hP hD rfl rfl rfl hl.1 rfl (Nat.le_of_ble_eq_true rfl) dX9_copy_49 ⟨Nat.le_of_ble_eq_true rfl, Nat.le_of_ble_eq_true rfl⟩ ?_
            refine lv_if_eq (tgt := 63) hx hb dX9_copy_52 (by decide) (fun c_147 => ?_) (fun c_147 => ?_)
            · replace c_147 := bI_f c_147
              refine lv_aload hx hb dX9_copy_63 (lv_at hl 1 rfl) ?_
              refine va_get (D := D) (ci := 5) (v := .int (I 513)) (C := RX6) (T := TX6) (N := 3) hx hb hts hi6 hown hK hP 16 rfl rfl 1 (by decide) hw3 (fun _ h9 => h9) rfl dX9_copy_65 ?_
              refine lv_aload hx hb dX9_copy_68 (lv_at hl 0 rfl) ?_
              refine va_get (D := D) (ci := 5) (v := .int (I 449)) (C := RX6) (T := TX6) (N := 3) hx hb hts hi6 hown hK hP 14 rfl rfl 1 (by decide) hw3 (fun _ h9 => h9) rfl dX9_copy_70 ?_
              refine lv_icmp_eq (tgt := 83) hx hb dX9_copy_73 (by decide) (fun c_148 => ?_) (fun c_148 => ?_)
              · refine lv_aload hx hb dX9_copy_83 (lv_at hl 1 rfl) ?_
                refine lv_iload_n hx hb dX9_copy_85 rfl (lv_at hl 4 rfl) ?_
                refine lv_iload hx hb dX9_copy_86 (lv_at hl 7 rfl) ?_
                refine kR_i (As := [.int x1, .int x4]) (rest := []) (q0 := 16) ⟨hx, hb, hml, hown, hts⟩ (x_X6_hasRange16 l D cy a _ J (va_up I 10 (I 10)) O (va_up (va_up (va_up (va_up R 13 (R 13)) 15 (R 15)) 17 (R 17)) 19 (R 19)) RO LL Y x1 x4  ) (cwV 2 hts gX9_copy_X6_hasRange rfl rfl rfl (by decide +kernel) ⟨Nat.le_of_ble_eq_true rfl, Nat.le_of_ble_eq_true rfl⟩) hK hN hP hD rfl rfl rfl hl.1 rfl (Nat.le_of_ble_eq_true rfl) dX9_copy_88 ⟨Nat.le_of_ble_eq_true rfl, Nat.le_of_ble_eq_true rfl⟩ ?_
                refine lv_if_eq (tgt := 106) hx hb dX9_copy_91 (by decide) (fun c_149 => ?_) (fun c_149 => ?_)
                · replace c_149 := bI_f c_149
                  refine lv_aload_n hx hb dX9_copy_106 rfl (lv_at hl 2 rfl) ?_
                  refine lv_ldc (v := (-100001)) hx hb hown hw0 dX9_copy_107 ?_
                  refine kM_i (As := [.int (-100001)]) (rest := []) (q0 := 0) ⟨hx, hb, hml, hown, hts⟩ (t_X9_finding l D cy a _ J (va_up I 10 (I 10)) O (va_up (va_up (va_up (va_up R 13 (R 13)) 15 (R 15)) 17 (R 17)) 19 (R 19)) RO LL Y ((-100001) : Int32)   ) (cwV 1 hts gX9_copy_X9_finding rfl rfl rfl (by decide +kernel) ⟨Nat.le_of_ble_eq_true rfl, Nat.le_of_ble_eq_true rfl⟩) hK hN hP hD hS hA rfl rfl rfl hl.1 rfl (Nat.le_of_ble_eq_true rfl) dX9_copy_109 ⟨Nat.le_of_ble_eq_true rfl, Nat.le_of_ble_eq_true rfl⟩ (fun r_150 u H locs hw hP hD hS => ?_)
                  obtain ⟨w_151, rfl, rfl⟩ := hw
                  have hP : va_P D vwCl (CT cy a J (va_up I 10 w_151) O (va_up (va_up (va_up (va_up R 13 (R 13)) 15 (R 15)) 17 (R 17)) 19 (R 19)) RO (LL ++ Y)) H := hP
                  have hD : va_D A (CT cy a J (va_up I 10 w_151) O (va_up (va_up (va_up (va_up R 13 (R 13)) 15 (R 15)) 17 (R 17)) 19 (R 19)) RO (LL ++ Y)) := hD
                  exact wret_i hx hb hr hlocks (J, (va_up I 10 w_151), O, (va_up (va_up (va_up (va_up R 13 (R 13)) 15 (R 15)) 17 (R 17)) 19 (R 19)), RO, LL, Y) ⟨w_151, (R 13), (R 15), (R 17), (R 19), ⟨(cp_no (V := Vs) (cw4 c_1 c_4 (nb0 (by rw [hj_5]; rfl) hSh.2.2.1 c_144) (nb0 (by rw [hj_128]; rfl) hSh.2.1 c_147) (by rw [bq (by rw [hj_5]; rfl) hSh.2.2.1, bq (by rw [hj_128]; rfl) hSh.2.1]; exact c_148) (ck_f1 (by rw [hj_5]; rfl) hSh.2.2.1 c_149)) (by decide)).1, (by rw [(cp_no (cw4 c_1 c_4 (nb0 (by rw [hj_5]; rfl) hSh.2.2.1 c_144) (nb0 (by rw [hj_128]; rfl) hSh.2.1 c_147) (by rw [bq (by rw [hj_5]; rfl) hSh.2.2.1, bq (by rw [hj_128]; rfl) hSh.2.1]; exact c_148) (ck_f1 (by rw [hj_5]; rfl) hSh.2.2.1 c_149)) (by decide)).2]; exact hSh)⟩, rfl⟩ hP hD hS dX9_copy_112
                · replace c_149 := bI_t c_149
                  refine lv_aload hx hb dX9_copy_94 (lv_at hl 0 rfl) ?_
                  refine lv_iload hx hb dX9_copy_96 (lv_at hl 6 rfl) ?_
                  refine lv_iload hx hb dX9_copy_98 (lv_at hl 7 rfl) ?_
                  refine kR_i (As := [.int x3, .int x4]) (rest := []) (q0 := 14) ⟨hx, hb, hml, hown, hts⟩ (x_X6_hasRange14 l D cy a _ J (va_up I 10 (I 10)) O (va_up (va_up (va_up (va_up R 13 (R 13)) 15 (R 15)) 17 (R 17)) 19 (R 19)) RO LL Y x3 x4  ) (cwV 2 hts gX9_copy_X6_hasRange rfl rfl rfl (by decide +kernel) ⟨Nat.le_of_ble_eq_true rfl, Nat.le_of_ble_eq_true rfl⟩) hK hN hP hD rfl rfl rfl hl.1 rfl (Nat.le_of_ble_eq_true rfl) dX9_copy_100 ⟨Nat.le_of_ble_eq_true rfl, Nat.le_of_ble_eq_true rfl⟩ ?_
                  refine lv_if_ne (tgt := 113) hx hb dX9_copy_103 (by decide) (fun c_152 => ?_) (fun c_152 => ?_)
                  · replace c_152 := bI_t c_152
                    refine lv_aload hx hb dX9_copy_113 (lv_at hl 1 rfl) ?_
                    refine va_get (D := D) (ci := 5) (v := .ref (a 17)) (C := RX6) (T := TX6) (N := 3) hx hb hts hi6 hown hK hP 16 rfl rfl 0 (by decide) hw4 (fun _ h9 => h9) rfl dX9_copy_115 ?_
                    refine lv_iload_n hx hb dX9_copy_118 rfl (lv_at hl 4 rfl) ?_
                    refine lv_aload hx hb dX9_copy_119 (lv_at hl 0 rfl) ?_
                    refine va_get (D := D) (ci := 5) (v := .ref (a 15)) (C := RX6) (T := TX6) (N := 3) hx hb hts hi6 hown hK hP 14 rfl rfl 0 (by decide) hw4 (fun _ h9 => h9) rfl dX9_copy_121 ?_
                    refine lv_iload hx hb dX9_copy_124 (lv_at hl 6 rfl) ?_
                    refine lv_iload hx hb dX9_copy_126 (lv_at hl 7 rfl) ?_
                    refine va_copyi hx hb (by rw [hml]; exact hl.1.symm) hown hw5 hw6 hw7 hw8 hK hP hD hS 17 15 0 0 rfl rfl rfl rfl rfl (rng_hr hSh.2.2.1 c_149).1 (rng_hr hSh.2.1 c_152).1 (rng_hr hSh.2.2.1 c_149).2.1 (rng_hr hSh.2.2.1 c_149).2.2 (rng_hr hSh.2.1 c_152).2.2 (fun _ _ => rfl) (Nat.le_of_ble_eq_true rfl) (Nat.le_of_ble_eq_true rfl) dX9_copy_128 (fun H locs hP hD hS => ?_)
                    have hP : va_P D vwCl (CT cy a J (va_up I 10 (I 10)) O (va_up (va_up (va_up (va_up R 13 (R 13)) 15 (va_cpy (R 17) (R 15) x1.toNatClampNeg x3.toNatClampNeg x4.toNatClampNeg)) 17 (R 17)) 19 (R 19)) RO (LL ++ Y)) H := hP
                    have hD : va_D A (CT cy a J (va_up I 10 (I 10)) O (va_up (va_up (va_up (va_up R 13 (R 13)) 15 (va_cpy (R 17) (R 15) x1.toNatClampNeg x3.toNatClampNeg x4.toNatClampNeg)) 17 (R 17)) 19 (R 19)) RO (LL ++ Y)) := hD
                    refine lv_iload hx hb dX9_copy_131 (lv_at hl 7 rfl) ?_
                    exact wret_i hx hb hr hlocks (J, (va_up I 10 (I 10)), O, (va_up (va_up (va_up (va_up R 13 (R 13)) 15 (va_cpy (R 17) (R 15) x1.toNatClampNeg x3.toNatClampNeg x4.toNatClampNeg)) 17 (R 17)) 19 (R 19)), RO, LL, Y) ⟨(I 10), (R 13), (va_cpy (R 17) (R 15) x1.toNatClampNeg x3.toNatClampNeg x4.toNatClampNeg), (R 17), (R 19), ⟨(cp_yes (V := Vs) (cw5 c_1 c_4 (nb0 (by rw [hj_5]; rfl) hSh.2.2.1 c_144) (nb0 (by rw [hj_128]; rfl) hSh.2.1 c_147) (by rw [bq (by rw [hj_5]; rfl) hSh.2.2.1, bq (by rw [hj_128]; rfl) hSh.2.1]; exact c_148) (ck_t (by rw [hj_5]; rfl) hSh.2.2.1 (by rw [hj_128]; rfl) hSh.2.1 c_149 c_152))).1, (by rw [(cp_yes (cw5 c_1 c_4 (nb0 (by rw [hj_5]; rfl) hSh.2.2.1 c_144) (nb0 (by rw [hj_128]; rfl) hSh.2.1 c_147) (by rw [bq (by rw [hj_5]; rfl) hSh.2.2.1, bq (by rw [hj_128]; rfl) hSh.2.1]; exact c_148) (ck_t (by rw [hj_5]; rfl) hSh.2.2.1 (by rw [hj_128]; rfl) hSh.2.1 c_149 c_152))).2]; exact RCs_v1 (by rw [hj_128]; rfl) hSh (ck_v (by rw [hj_5]; rfl) hSh.2.2.1 (by rw [hj_128]; rfl) hSh.2.1 c_149 c_152))⟩, rfl⟩ hP hD hS dX9_copy_133
                  · replace c_152 := bI_f c_152
                    refine lv_aload_n hx hb dX9_copy_106 rfl (lv_at hl 2 rfl) ?_
                    refine lv_ldc (v := (-100001)) hx hb hown hw0 dX9_copy_107 ?_
                    refine kM_i (As := [.int (-100001)]) (rest := []) (q0 := 0) ⟨hx, hb, hml, hown, hts⟩ (t_X9_finding l D cy a _ J (va_up I 10 (I 10)) O (va_up (va_up (va_up (va_up R 13 (R 13)) 15 (R 15)) 17 (R 17)) 19 (R 19)) RO LL Y ((-100001) : Int32)   ) (cwV 1 hts gX9_copy_X9_finding rfl rfl rfl (by decide +kernel) ⟨Nat.le_of_ble_eq_true rfl, Nat.le_of_ble_eq_true rfl⟩) hK hN hP hD hS hA rfl rfl rfl hl.1 rfl (Nat.le_of_ble_eq_true rfl) dX9_copy_109 ⟨Nat.le_of_ble_eq_true rfl, Nat.le_of_ble_eq_true rfl⟩ (fun r_153 u H locs hw hP hD hS => ?_)
                    obtain ⟨w_154, rfl, rfl⟩ := hw
                    have hP : va_P D vwCl (CT cy a J (va_up I 10 w_154) O (va_up (va_up (va_up (va_up R 13 (R 13)) 15 (R 15)) 17 (R 17)) 19 (R 19)) RO (LL ++ Y)) H := hP
                    have hD : va_D A (CT cy a J (va_up I 10 w_154) O (va_up (va_up (va_up (va_up R 13 (R 13)) 15 (R 15)) 17 (R 17)) 19 (R 19)) RO (LL ++ Y)) := hD
                    exact wret_i hx hb hr hlocks (J, (va_up I 10 w_154), O, (va_up (va_up (va_up (va_up R 13 (R 13)) 15 (R 15)) 17 (R 17)) 19 (R 19)), RO, LL, Y) ⟨w_154, (R 13), (R 15), (R 17), (R 19), ⟨(cp_no (V := Vs) (cw4 c_1 c_4 (nb0 (by rw [hj_5]; rfl) hSh.2.2.1 c_144) (nb0 (by rw [hj_128]; rfl) hSh.2.1 c_147) (by rw [bq (by rw [hj_5]; rfl) hSh.2.2.1, bq (by rw [hj_128]; rfl) hSh.2.1]; exact c_148) (ck_f2 (by rw [hj_128]; rfl) hSh.2.1 c_152)) (by decide)).1, (by rw [(cp_no (cw4 c_1 c_4 (nb0 (by rw [hj_5]; rfl) hSh.2.2.1 c_144) (nb0 (by rw [hj_128]; rfl) hSh.2.1 c_147) (by rw [bq (by rw [hj_5]; rfl) hSh.2.2.1, bq (by rw [hj_128]; rfl) hSh.2.1]; exact c_148) (ck_f2 (by rw [hj_128]; rfl) hSh.2.1 c_152)) (by decide)).2]; exact hSh)⟩, rfl⟩ hP hD hS dX9_copy_112
              · refine lv_aload_n hx hb dX9_copy_76 rfl (lv_at hl 2 rfl) ?_
                refine lv_ldc (v := (-100004)) hx hb hown hw9 dX9_copy_77 ?_
                refine kM_i (As := [.int (-100004)]) (rest := []) (q0 := 0) ⟨hx, hb, hml, hown, hts⟩ (t_X9_finding l D cy a _ J (va_up I 10 (I 10)) O (va_up (va_up (va_up (va_up R 13 (R 13)) 15 (R 15)) 17 (R 17)) 19 (R 19)) RO LL Y ((-100004) : Int32)   ) (cwV 1 hts gX9_copy_X9_finding rfl rfl rfl (by decide +kernel) ⟨Nat.le_of_ble_eq_true rfl, Nat.le_of_ble_eq_true rfl⟩) hK hN hP hD hS hA rfl rfl rfl hl.1 rfl (Nat.le_of_ble_eq_true rfl) dX9_copy_79 ⟨Nat.le_of_ble_eq_true rfl, Nat.le_of_ble_eq_true rfl⟩ (fun r_155 u H locs hw hP hD hS => ?_)
                obtain ⟨w_156, rfl, rfl⟩ := hw
                have hP : va_P D vwCl (CT cy a J (va_up I 10 w_156) O (va_up (va_up (va_up (va_up R 13 (R 13)) 15 (R 15)) 17 (R 17)) 19 (R 19)) RO (LL ++ Y)) H := hP
                have hD : va_D A (CT cy a J (va_up I 10 w_156) O (va_up (va_up (va_up (va_up R 13 (R 13)) 15 (R 15)) 17 (R 17)) 19 (R 19)) RO (LL ++ Y)) := hD
                exact wret_i hx hb hr hlocks (J, (va_up I 10 w_156), O, (va_up (va_up (va_up (va_up R 13 (R 13)) 15 (R 15)) 17 (R 17)) 19 (R 19)), RO, LL, Y) ⟨w_156, (R 13), (R 15), (R 17), (R 19), ⟨(cp_no (V := Vs) (cw3 c_1 c_4 (nb0 (by rw [hj_5]; rfl) hSh.2.2.1 c_144) (nb0 (by rw [hj_128]; rfl) hSh.2.1 c_147) (by rw [bq (by rw [hj_5]; rfl) hSh.2.2.1, bq (by rw [hj_128]; rfl) hSh.2.1]; exact c_148)) (by decide)).1, (by rw [(cp_no (cw3 c_1 c_4 (nb0 (by rw [hj_5]; rfl) hSh.2.2.1 c_144) (nb0 (by rw [hj_128]; rfl) hSh.2.1 c_147) (by rw [bq (by rw [hj_5]; rfl) hSh.2.2.1, bq (by rw [hj_128]; rfl) hSh.2.1]; exact c_148)) (by decide)).2]; exact hSh)⟩, rfl⟩ hP hD hS dX9_copy_82
            · replace c_147 := bI_t c_147
              refine lv_aload_n hx hb dX9_copy_55 rfl (lv_at hl 2 rfl) ?_
              refine lv_ldcw (v := (-100002)) hx hb hown hw2 dX9_copy_56 ?_
              refine kM_i (As := [.int (-100002)]) (rest := []) (q0 := 0) ⟨hx, hb, hml, hown, hts⟩ (t_X9_finding l D cy a _ J (va_up I 10 (I 10)) O (va_up (va_up (va_up (va_up R 13 (R 13)) 15 (R 15)) 17 (R 17)) 19 (R 19)) RO LL Y ((-100002) : Int32)   ) (cwV 1 hts gX9_copy_X9_finding rfl rfl rfl (by decide +kernel) ⟨Nat.le_of_ble_eq_true rfl, Nat.le_of_ble_eq_true rfl⟩) hK hN hP hD hS hA rfl rfl rfl hl.1 rfl (Nat.le_of_ble_eq_true rfl) dX9_copy_59 ⟨Nat.le_of_ble_eq_true rfl, Nat.le_of_ble_eq_true rfl⟩ (fun r_157 u H locs hw hP hD hS => ?_)
              obtain ⟨w_158, rfl, rfl⟩ := hw
              have hP : va_P D vwCl (CT cy a J (va_up I 10 w_158) O (va_up (va_up (va_up (va_up R 13 (R 13)) 15 (R 15)) 17 (R 17)) 19 (R 19)) RO (LL ++ Y)) H := hP
              have hD : va_D A (CT cy a J (va_up I 10 w_158) O (va_up (va_up (va_up (va_up R 13 (R 13)) 15 (R 15)) 17 (R 17)) 19 (R 19)) RO (LL ++ Y)) := hD
              exact wret_i hx hb hr hlocks (J, (va_up I 10 w_158), O, (va_up (va_up (va_up (va_up R 13 (R 13)) 15 (R 15)) 17 (R 17)) 19 (R 19)), RO, LL, Y) ⟨w_158, (R 13), (R 15), (R 17), (R 19), ⟨(cp_no (V := Vs) (cw2 c_1 c_4 (Or.inr (eb0 (by rw [hj_128]; rfl) hSh.2.1 c_147))) (by decide)).1, (by rw [(cp_no (cw2 c_1 c_4 (Or.inr (eb0 (by rw [hj_128]; rfl) hSh.2.1 c_147))) (by decide)).2]; exact hSh)⟩, rfl⟩ hP hD hS dX9_copy_62
        · refine wtop_v (y := .ref (a 16)) (by rw [hj_128]; exact congrArg va_rf hRO2) ?_
          refine lv_astore (lv' := [(7, .ref (a 16)), (6, .ref (a 16)), (0, .ref (a 0)), (1, .int x0), (2, .int x1), (3, .int x2), (4, .int x3), (5, .int x4)]) hx hb dX9_copy_37 hl (by decide) rfl (fun ls hl => ?_)
          refine lv_aload hx hb dX9_copy_39 (lv_at hl 1 rfl) ?_
          refine kR_i (As := []) (rest := []) (q0 := 16) ⟨hx, hb, hml, hown, hts⟩ (x_X6_isMissing16 l D cy a _ J (va_up I 10 (I 10)) O (va_up (va_up (va_up (va_up R 13 (R 13)) 15 (R 15)) 17 (R 17)) 19 (R 19)) RO LL Y   ) (cwV 0 hts gX9_copy_X6_isMissing rfl rfl rfl (by decide +kernel) ⟨Nat.le_of_ble_eq_true rfl, Nat.le_of_ble_eq_true rfl⟩) hK hN hP hD rfl rfl rfl hl.1 rfl (Nat.le_of_ble_eq_true rfl) dX9_copy_41 ⟨Nat.le_of_ble_eq_true rfl, Nat.le_of_ble_eq_true rfl⟩ ?_
          refine lv_if_ne (tgt := 55) hx hb dX9_copy_44 (by decide) (fun c_159 => ?_) (fun c_159 => ?_)
          · replace c_159 := bI_t c_159
            refine lv_aload_n hx hb dX9_copy_55 rfl (lv_at hl 2 rfl) ?_
            refine lv_ldcw (v := (-100002)) hx hb hown hw2 dX9_copy_56 ?_
            refine kM_i (As := [.int (-100002)]) (rest := []) (q0 := 0) ⟨hx, hb, hml, hown, hts⟩ (t_X9_finding l D cy a _ J (va_up I 10 (I 10)) O (va_up (va_up (va_up (va_up R 13 (R 13)) 15 (R 15)) 17 (R 17)) 19 (R 19)) RO LL Y ((-100002) : Int32)   ) (cwV 1 hts gX9_copy_X9_finding rfl rfl rfl (by decide +kernel) ⟨Nat.le_of_ble_eq_true rfl, Nat.le_of_ble_eq_true rfl⟩) hK hN hP hD hS hA rfl rfl rfl hl.1 rfl (Nat.le_of_ble_eq_true rfl) dX9_copy_59 ⟨Nat.le_of_ble_eq_true rfl, Nat.le_of_ble_eq_true rfl⟩ (fun r_160 u H locs hw hP hD hS => ?_)
            obtain ⟨w_161, rfl, rfl⟩ := hw
            have hP : va_P D vwCl (CT cy a J (va_up I 10 w_161) O (va_up (va_up (va_up (va_up R 13 (R 13)) 15 (R 15)) 17 (R 17)) 19 (R 19)) RO (LL ++ Y)) H := hP
            have hD : va_D A (CT cy a J (va_up I 10 w_161) O (va_up (va_up (va_up (va_up R 13 (R 13)) 15 (R 15)) 17 (R 17)) 19 (R 19)) RO (LL ++ Y)) := hD
            exact wret_i hx hb hr hlocks (J, (va_up I 10 w_161), O, (va_up (va_up (va_up (va_up R 13 (R 13)) 15 (R 15)) 17 (R 17)) 19 (R 19)), RO, LL, Y) ⟨w_161, (R 13), (R 15), (R 17), (R 19), ⟨(cp_no (V := Vs) (cw2 c_1 c_4 (Or.inl (eb0 (by rw [hj_5]; rfl) hSh.2.2.1 c_159))) (by decide)).1, (by rw [(cp_no (cw2 c_1 c_4 (Or.inl (eb0 (by rw [hj_5]; rfl) hSh.2.2.1 c_159))) (by decide)).2]; exact hSh)⟩, rfl⟩ hP hD hS dX9_copy_62
          · replace c_159 := bI_f c_159
            refine lv_aload hx hb dX9_copy_47 (lv_at hl 0 rfl) ?_
            refine kR_i (As := []) (rest := []) (q0 := 16) ⟨hx, hb, hml, hown, hts⟩ (x_X6_isMissing16 l D cy a _ J (va_up I 10 (I 10)) O (va_up (va_up (va_up (va_up R 13 (R 13)) 15 (R 15)) 17 (R 17)) 19 (R 19)) RO LL Y   ) (cwV 0 hts gX9_copy_X6_isMissing rfl rfl rfl (by decide +kernel) ⟨Nat.le_of_ble_eq_true rfl, Nat.le_of_ble_eq_true rfl⟩) hK hN hP hD rfl rfl rfl hl.1 rfl (Nat.le_of_ble_eq_true rfl) dX9_copy_49 ⟨Nat.le_of_ble_eq_true rfl, Nat.le_of_ble_eq_true rfl⟩ ?_
            refine lv_if_eq (tgt := 63) hx hb dX9_copy_52 (by decide) (fun c_162 => ?_) (fun c_162 => ?_)
            · replace c_162 := bI_f c_162
              refine lv_aload hx hb dX9_copy_63 (lv_at hl 1 rfl) ?_
              refine va_get (D := D) (ci := 5) (v := .int (I 513)) (C := RX6) (T := TX6) (N := 3) hx hb hts hi6 hown hK hP 16 rfl rfl 1 (by decide) hw3 (fun _ h9 => h9) rfl dX9_copy_65 ?_
              refine lv_aload hx hb dX9_copy_68 (lv_at hl 0 rfl) ?_
              refine va_get (D := D) (ci := 5) (v := .int (I 513)) (C := RX6) (T := TX6) (N := 3) hx hb hts hi6 hown hK hP 16 rfl rfl 1 (by decide) hw3 (fun _ h9 => h9) rfl dX9_copy_70 ?_
              refine lv_icmp_eq (tgt := 83) hx hb dX9_copy_73 (by decide) (fun c_163 => ?_) (fun c_163 => ?_)
              · refine lv_aload hx hb dX9_copy_83 (lv_at hl 1 rfl) ?_
                refine lv_iload_n hx hb dX9_copy_85 rfl (lv_at hl 4 rfl) ?_
                refine lv_iload hx hb dX9_copy_86 (lv_at hl 7 rfl) ?_
                refine kR_i (As := [.int x1, .int x4]) (rest := []) (q0 := 16) ⟨hx, hb, hml, hown, hts⟩ (x_X6_hasRange16 l D cy a _ J (va_up I 10 (I 10)) O (va_up (va_up (va_up (va_up R 13 (R 13)) 15 (R 15)) 17 (R 17)) 19 (R 19)) RO LL Y x1 x4  ) (cwV 2 hts gX9_copy_X6_hasRange rfl rfl rfl (by decide +kernel) ⟨Nat.le_of_ble_eq_true rfl, Nat.le_of_ble_eq_true rfl⟩) hK hN hP hD rfl rfl rfl hl.1 rfl (Nat.le_of_ble_eq_true rfl) dX9_copy_88 ⟨Nat.le_of_ble_eq_true rfl, Nat.le_of_ble_eq_true rfl⟩ ?_
                refine lv_if_eq (tgt := 106) hx hb dX9_copy_91 (by decide) (fun c_164 => ?_) (fun c_164 => ?_)
                · replace c_164 := bI_f c_164
                  refine lv_aload_n hx hb dX9_copy_106 rfl (lv_at hl 2 rfl) ?_
                  refine lv_ldc (v := (-100001)) hx hb hown hw0 dX9_copy_107 ?_
                  refine kM_i (As := [.int (-100001)]) (rest := []) (q0 := 0) ⟨hx, hb, hml, hown, hts⟩ (t_X9_finding l D cy a _ J (va_up I 10 (I 10)) O (va_up (va_up (va_up (va_up R 13 (R 13)) 15 (R 15)) 17 (R 17)) 19 (R 19)) RO LL Y ((-100001) : Int32)   ) (cwV 1 hts gX9_copy_X9_finding rfl rfl rfl (by decide +kernel) ⟨Nat.le_of_ble_eq_true rfl, Nat.le_of_ble_eq_true rfl⟩) hK hN hP hD hS hA rfl rfl rfl hl.1 rfl (Nat.le_of_ble_eq_true rfl) dX9_copy_109 ⟨Nat.le_of_ble_eq_true rfl, Nat.le_of_ble_eq_true rfl⟩ (fun r_165 u H locs hw hP hD hS => ?_)
                  obtain ⟨w_166, rfl, rfl⟩ := hw
                  have hP : va_P D vwCl (CT cy a J (va_up I 10 w_166) O (va_up (va_up (va_up (va_up R 13 (R 13)) 15 (R 15)) 17 (R 17)) 19 (R 19)) RO (LL ++ Y)) H := hP
                  have hD : va_D A (CT cy a J (va_up I 10 w_166) O (va_up (va_up (va_up (va_up R 13 (R 13)) 15 (R 15)) 17 (R 17)) 19 (R 19)) RO (LL ++ Y)) := hD
                  exact wret_i hx hb hr hlocks (J, (va_up I 10 w_166), O, (va_up (va_up (va_up (va_up R 13 (R 13)) 15 (R 15)) 17 (R 17)) 19 (R 19)), RO, LL, Y) ⟨w_166, (R 13), (R 15), (R 17), (R 19), ⟨(cp_no (V := Vs) (cw4 c_1 c_4 (nb0 (by rw [hj_5]; rfl) hSh.2.2.1 c_159) (nb0 (by rw [hj_128]; rfl) hSh.2.2.1 c_162) (by rw [bq (by rw [hj_5]; rfl) hSh.2.2.1, bq (by rw [hj_128]; rfl) hSh.2.2.1]) (ck_f1 (by rw [hj_5]; rfl) hSh.2.2.1 c_164)) (by decide)).1, (by rw [(cp_no (cw4 c_1 c_4 (nb0 (by rw [hj_5]; rfl) hSh.2.2.1 c_159) (nb0 (by rw [hj_128]; rfl) hSh.2.2.1 c_162) (by rw [bq (by rw [hj_5]; rfl) hSh.2.2.1, bq (by rw [hj_128]; rfl) hSh.2.2.1]) (ck_f1 (by rw [hj_5]; rfl) hSh.2.2.1 c_164)) (by decide)).2]; exact hSh)⟩, rfl⟩ hP hD hS dX9_copy_112
                · replace c_164 := bI_t c_164
                  refine lv_aload hx hb dX9_copy_94 (lv_at hl 0 rfl) ?_
                  refine lv_iload hx hb dX9_copy_96 (lv_at hl 6 rfl) ?_
                  refine lv_iload hx hb dX9_copy_98 (lv_at hl 7 rfl) ?_
                  refine kR_i (As := [.int x3, .int x4]) (rest := []) (q0 := 16) ⟨hx, hb, hml, hown, hts⟩ (x_X6_hasRange16 l D cy a _ J (va_up I 10 (I 10)) O (va_up (va_up (va_up (va_up R 13 (R 13)) 15 (R 15)) 17 (R 17)) 19 (R 19)) RO LL Y x3 x4  ) (cwV 2 hts gX9_copy_X6_hasRange rfl rfl rfl (by decide +kernel) ⟨Nat.le_of_ble_eq_true rfl, Nat.le_of_ble_eq_true rfl⟩) hK hN hP hD rfl rfl rfl hl.1 rfl (Nat.le_of_ble_eq_true rfl) dX9_copy_100 ⟨Nat.le_of_ble_eq_true rfl, Nat.le_of_ble_eq_true rfl⟩ ?_
                  refine lv_if_ne (tgt := 113) hx hb dX9_copy_103 (by decide) (fun c_167 => ?_) (fun c_167 => ?_)
                  · replace c_167 := bI_t c_167
                    refine lv_aload hx hb dX9_copy_113 (lv_at hl 1 rfl) ?_
                    refine va_get (D := D) (ci := 5) (v := .ref (a 17)) (C := RX6) (T := TX6) (N := 3) hx hb hts hi6 hown hK hP 16 rfl rfl 0 (by decide) hw4 (fun _ h9 => h9) rfl dX9_copy_115 ?_
                    refine lv_iload_n hx hb dX9_copy_118 rfl (lv_at hl 4 rfl) ?_
                    refine lv_aload hx hb dX9_copy_119 (lv_at hl 0 rfl) ?_
                    refine va_get (D := D) (ci := 5) (v := .ref (a 17)) (C := RX6) (T := TX6) (N := 3) hx hb hts hi6 hown hK hP 16 rfl rfl 0 (by decide) hw4 (fun _ h9 => h9) rfl dX9_copy_121 ?_
                    refine lv_iload hx hb dX9_copy_124 (lv_at hl 6 rfl) ?_
                    refine lv_iload hx hb dX9_copy_126 (lv_at hl 7 rfl) ?_
                    refine va_copyi hx hb (by rw [hml]; exact hl.1.symm) hown hw5 hw6 hw7 hw8 hK hP hD hS 17 17 0 0 rfl rfl rfl rfl rfl (rng_hr hSh.2.2.1 c_164).1 (rng_hr hSh.2.2.1 c_167).1 (rng_hr hSh.2.2.1 c_164).2.1 (rng_hr hSh.2.2.1 c_164).2.2 (rng_hr hSh.2.2.1 c_167).2.2 (fun _ _ => rfl) (Nat.le_of_ble_eq_true rfl) (Nat.le_of_ble_eq_true rfl) dX9_copy_128 (fun H locs hP hD hS => ?_)
                    have hP : va_P D vwCl (CT cy a J (va_up I 10 (I 10)) O (va_up (va_up (va_up (va_up R 13 (R 13)) 15 (R 15)) 17 (va_cpy (R 17) (R 17) x1.toNatClampNeg x3.toNatClampNeg x4.toNatClampNeg)) 19 (R 19)) RO (LL ++ Y)) H := hP
                    have hD : va_D A (CT cy a J (va_up I 10 (I 10)) O (va_up (va_up (va_up (va_up R 13 (R 13)) 15 (R 15)) 17 (va_cpy (R 17) (R 17) x1.toNatClampNeg x3.toNatClampNeg x4.toNatClampNeg)) 19 (R 19)) RO (LL ++ Y)) := hD
                    refine lv_iload hx hb dX9_copy_131 (lv_at hl 7 rfl) ?_
                    exact wret_i hx hb hr hlocks (J, (va_up I 10 (I 10)), O, (va_up (va_up (va_up (va_up R 13 (R 13)) 15 (R 15)) 17 (va_cpy (R 17) (R 17) x1.toNatClampNeg x3.toNatClampNeg x4.toNatClampNeg)) 19 (R 19)), RO, LL, Y) ⟨(I 10), (R 13), (R 15), (va_cpy (R 17) (R 17) x1.toNatClampNeg x3.toNatClampNeg x4.toNatClampNeg), (R 19), ⟨(cp_yes (V := Vs) (cw5 c_1 c_4 (nb0 (by rw [hj_5]; rfl) hSh.2.2.1 c_159) (nb0 (by rw [hj_128]; rfl) hSh.2.2.1 c_162) (by rw [bq (by rw [hj_5]; rfl) hSh.2.2.1, bq (by rw [hj_128]; rfl) hSh.2.2.1]) (ck_t (by rw [hj_5]; rfl) hSh.2.2.1 (by rw [hj_128]; rfl) hSh.2.2.1 c_164 c_167))).1, (by rw [(cp_yes (cw5 c_1 c_4 (nb0 (by rw [hj_5]; rfl) hSh.2.2.1 c_159) (nb0 (by rw [hj_128]; rfl) hSh.2.2.1 c_162) (by rw [bq (by rw [hj_5]; rfl) hSh.2.2.1, bq (by rw [hj_128]; rfl) hSh.2.2.1]) (ck_t (by rw [hj_5]; rfl) hSh.2.2.1 (by rw [hj_128]; rfl) hSh.2.2.1 c_164 c_167))).2]; exact RCs_v2 (by rw [hj_128]; rfl) hSh (ck_v (by rw [hj_5]; rfl) hSh.2.2.1 (by rw [hj_128]; rfl) hSh.2.2.1 c_164 c_167))⟩, rfl⟩ hP hD hS dX9_copy_133
                  · replace c_167 := bI_f c_167
                    refine lv_aload_n hx hb dX9_copy_106 rfl (lv_at hl 2 rfl) ?_
                    refine lv_ldc (v := (-100001)) hx hb hown hw0 dX9_copy_107 ?_
                    refine kM_i (As := [.int (-100001)]) (rest := []) (q0 := 0) ⟨hx, hb, hml, hown, hts⟩ (t_X9_finding l D cy a _ J (va_up I 10 (I 10)) O (va_up (va_up (va_up (va_up R 13 (R 13)) 15 (R 15)) 17 (R 17)) 19 (R 19)) RO LL Y ((-100001) : Int32)   ) (cwV 1 hts gX9_copy_X9_finding rfl rfl rfl (by decide +kernel) ⟨Nat.le_of_ble_eq_true rfl, Nat.le_of_ble_eq_true rfl⟩) hK hN hP hD hS hA rfl rfl rfl hl.1 rfl (Nat.le_of_ble_eq_true rfl) dX9_copy_109 ⟨Nat.le_of_ble_eq_true rfl, Nat.le_of_ble_eq_true rfl⟩ (fun r_168 u H locs hw hP hD hS => ?_)
                    obtain ⟨w_169, rfl, rfl⟩ := hw
                    have hP : va_P D vwCl (CT cy a J (va_up I 10 w_169) O (va_up (va_up (va_up (va_up R 13 (R 13)) 15 (R 15)) 17 (R 17)) 19 (R 19)) RO (LL ++ Y)) H := hP
                    have hD : va_D A (CT cy a J (va_up I 10 w_169) O (va_up (va_up (va_up (va_up R 13 (R 13)) 15 (R 15)) 17 (R 17)) 19 (R 19)) RO (LL ++ Y)) := hD
                    exact wret_i hx hb hr hlocks (J, (va_up I 10 w_169), O, (va_up (va_up (va_up (va_up R 13 (R 13)) 15 (R 15)) 17 (R 17)) 19 (R 19)), RO, LL, Y) ⟨w_169, (R 13), (R 15), (R 17), (R 19), ⟨(cp_no (V := Vs) (cw4 c_1 c_4 (nb0 (by rw [hj_5]; rfl) hSh.2.2.1 c_159) (nb0 (by rw [hj_128]; rfl) hSh.2.2.1 c_162) (by rw [bq (by rw [hj_5]; rfl) hSh.2.2.1, bq (by rw [hj_128]; rfl) hSh.2.2.1]) (ck_f2 (by rw [hj_128]; rfl) hSh.2.2.1 c_167)) (by decide)).1, (by rw [(cp_no (cw4 c_1 c_4 (nb0 (by rw [hj_5]; rfl) hSh.2.2.1 c_159) (nb0 (by rw [hj_128]; rfl) hSh.2.2.1 c_162) (by rw [bq (by rw [hj_5]; rfl) hSh.2.2.1, bq (by rw [hj_128]; rfl) hSh.2.2.1]) (ck_f2 (by rw [hj_128]; rfl) hSh.2.2.1 c_167)) (by decide)).2]; exact hSh)⟩, rfl⟩ hP hD hS dX9_copy_112
              · refine lv_aload_n hx hb dX9_copy_76 rfl (lv_at hl 2 rfl) ?_
                refine lv_ldc (v := (-100004)) hx hb hown hw9 dX9_copy_77 ?_
                refine kM_i (As := [.int (-100004)]) (rest := []) (q0 := 0) ⟨hx, hb, hml, hown, hts⟩ (t_X9_finding l D cy a _ J (va_up I 10 (I 10)) O (va_up (va_up (va_up (va_up R 13 (R 13)) 15 (R 15)) 17 (R 17)) 19 (R 19)) RO LL Y ((-100004) : Int32)   ) (cwV 1 hts gX9_copy_X9_finding rfl rfl rfl (by decide +kernel) ⟨Nat.le_of_ble_eq_true rfl, Nat.le_of_ble_eq_true rfl⟩) hK hN hP hD hS hA rfl rfl rfl hl.1 rfl (Nat.le_of_ble_eq_true rfl) dX9_copy_79 ⟨Nat.le_of_ble_eq_true rfl, Nat.le_of_ble_eq_true rfl⟩ (fun r_170 u H locs hw hP hD hS => ?_)
                obtain ⟨w_171, rfl, rfl⟩ := hw
                have hP : va_P D vwCl (CT cy a J (va_up I 10 w_171) O (va_up (va_up (va_up (va_up R 13 (R 13)) 15 (R 15)) 17 (R 17)) 19 (R 19)) RO (LL ++ Y)) H := hP
                have hD : va_D A (CT cy a J (va_up I 10 w_171) O (va_up (va_up (va_up (va_up R 13 (R 13)) 15 (R 15)) 17 (R 17)) 19 (R 19)) RO (LL ++ Y)) := hD
                exact wret_i hx hb hr hlocks (J, (va_up I 10 w_171), O, (va_up (va_up (va_up (va_up R 13 (R 13)) 15 (R 15)) 17 (R 17)) 19 (R 19)), RO, LL, Y) ⟨w_171, (R 13), (R 15), (R 17), (R 19), ⟨(cp_no (V := Vs) (cw3 c_1 c_4 (nb0 (by rw [hj_5]; rfl) hSh.2.2.1 c_159) (nb0 (by rw [hj_128]; rfl) hSh.2.2.1 c_162) (by rw [bq (by rw [hj_5]; rfl) hSh.2.2.1, bq (by rw [hj_128]; rfl) hSh.2.2.1]; exact c_163)) (by decide)).1, (by rw [(cp_no (cw3 c_1 c_4 (nb0 (by rw [hj_5]; rfl) hSh.2.2.1 c_159) (nb0 (by rw [hj_128]; rfl) hSh.2.2.1 c_162) (by rw [bq (by rw [hj_5]; rfl) hSh.2.2.1, bq (by rw [hj_128]; rfl) hSh.2.2.1]; exact c_163)) (by decide)).2]; exact hSh)⟩, rfl⟩ hP hD hS dX9_copy_82
            · replace c_162 := bI_t c_162
              refine lv_aload_n hx hb dX9_copy_55 rfl (lv_at hl 2 rfl) ?_
              refine lv_ldcw (v := (-100002)) hx hb hown hw2 dX9_copy_56 ?_
              refine kM_i (As := [.int (-100002)]) (rest := []) (q0 := 0) ⟨hx, hb, hml, hown, hts⟩ (t_X9_finding l D cy a _ J (va_up I 10 (I 10)) O (va_up (va_up (va_up (va_up R 13 (R 13)) 15 (R 15)) 17 (R 17)) 19 (R 19)) RO LL Y ((-100002) : Int32)   ) (cwV 1 hts gX9_copy_X9_finding rfl rfl rfl (by decide +kernel) ⟨Nat.le_of_ble_eq_true rfl, Nat.le_of_ble_eq_true rfl⟩) hK hN hP hD hS hA rfl rfl rfl hl.1 rfl (Nat.le_of_ble_eq_true rfl) dX9_copy_59 ⟨Nat.le_of_ble_eq_true rfl, Nat.le_of_ble_eq_true rfl⟩ (fun r_172 u H locs hw hP hD hS => ?_)
              obtain ⟨w_173, rfl, rfl⟩ := hw
              have hP : va_P D vwCl (CT cy a J (va_up I 10 w_173) O (va_up (va_up (va_up (va_up R 13 (R 13)) 15 (R 15)) 17 (R 17)) 19 (R 19)) RO (LL ++ Y)) H := hP
              have hD : va_D A (CT cy a J (va_up I 10 w_173) O (va_up (va_up (va_up (va_up R 13 (R 13)) 15 (R 15)) 17 (R 17)) 19 (R 19)) RO (LL ++ Y)) := hD
              exact wret_i hx hb hr hlocks (J, (va_up I 10 w_173), O, (va_up (va_up (va_up (va_up R 13 (R 13)) 15 (R 15)) 17 (R 17)) 19 (R 19)), RO, LL, Y) ⟨w_173, (R 13), (R 15), (R 17), (R 19), ⟨(cp_no (V := Vs) (cw2 c_1 c_4 (Or.inr (eb0 (by rw [hj_128]; rfl) hSh.2.2.1 c_162))) (by decide)).1, (by rw [(cp_no (cw2 c_1 c_4 (Or.inr (eb0 (by rw [hj_128]; rfl) hSh.2.2.1 c_162))) (by decide)).2]; exact hSh)⟩, rfl⟩ hP hD hS dX9_copy_62
        · refine wtop_v (y := .ref (a 18)) (by rw [hj_128]; exact congrArg va_rf hRO3) ?_
          refine lv_astore (lv' := [(7, .ref (a 18)), (6, .ref (a 16)), (0, .ref (a 0)), (1, .int x0), (2, .int x1), (3, .int x2), (4, .int x3), (5, .int x4)]) hx hb dX9_copy_37 hl (by decide) rfl (fun ls hl => ?_)
          refine lv_aload hx hb dX9_copy_39 (lv_at hl 1 rfl) ?_
          refine kR_i (As := []) (rest := []) (q0 := 16) ⟨hx, hb, hml, hown, hts⟩ (x_X6_isMissing16 l D cy a _ J (va_up I 10 (I 10)) O (va_up (va_up (va_up (va_up R 13 (R 13)) 15 (R 15)) 17 (R 17)) 19 (R 19)) RO LL Y   ) (cwV 0 hts gX9_copy_X6_isMissing rfl rfl rfl (by decide +kernel) ⟨Nat.le_of_ble_eq_true rfl, Nat.le_of_ble_eq_true rfl⟩) hK hN hP hD rfl rfl rfl hl.1 rfl (Nat.le_of_ble_eq_true rfl) dX9_copy_41 ⟨Nat.le_of_ble_eq_true rfl, Nat.le_of_ble_eq_true rfl⟩ ?_
          refine lv_if_ne (tgt := 55) hx hb dX9_copy_44 (by decide) (fun c_174 => ?_) (fun c_174 => ?_)
          · replace c_174 := bI_t c_174
            refine lv_aload_n hx hb dX9_copy_55 rfl (lv_at hl 2 rfl) ?_
            refine lv_ldcw (v := (-100002)) hx hb hown hw2 dX9_copy_56 ?_
            refine kM_i (As := [.int (-100002)]) (rest := []) (q0 := 0) ⟨hx, hb, hml, hown, hts⟩ (t_X9_finding l D cy a _ J (va_up I 10 (I 10)) O (va_up (va_up (va_up (va_up R 13 (R 13)) 15 (R 15)) 17 (R 17)) 19 (R 19)) RO LL Y ((-100002) : Int32)   ) (cwV 1 hts gX9_copy_X9_finding rfl rfl rfl (by decide +kernel) ⟨Nat.le_of_ble_eq_true rfl, Nat.le_of_ble_eq_true rfl⟩) hK hN hP hD hS hA rfl rfl rfl hl.1 rfl (Nat.le_of_ble_eq_true rfl) dX9_copy_59 ⟨Nat.le_of_ble_eq_true rfl, Nat.le_of_ble_eq_true rfl⟩ (fun r_175 u H locs hw hP hD hS => ?_)
            obtain ⟨w_176, rfl, rfl⟩ := hw
            have hP : va_P D vwCl (CT cy a J (va_up I 10 w_176) O (va_up (va_up (va_up (va_up R 13 (R 13)) 15 (R 15)) 17 (R 17)) 19 (R 19)) RO (LL ++ Y)) H := hP
            have hD : va_D A (CT cy a J (va_up I 10 w_176) O (va_up (va_up (va_up (va_up R 13 (R 13)) 15 (R 15)) 17 (R 17)) 19 (R 19)) RO (LL ++ Y)) := hD
            exact wret_i hx hb hr hlocks (J, (va_up I 10 w_176), O, (va_up (va_up (va_up (va_up R 13 (R 13)) 15 (R 15)) 17 (R 17)) 19 (R 19)), RO, LL, Y) ⟨w_176, (R 13), (R 15), (R 17), (R 19), ⟨(cp_no (V := Vs) (cw2 c_1 c_4 (Or.inl (eb0 (by rw [hj_5]; rfl) hSh.2.2.1 c_174))) (by decide)).1, (by rw [(cp_no (cw2 c_1 c_4 (Or.inl (eb0 (by rw [hj_5]; rfl) hSh.2.2.1 c_174))) (by decide)).2]; exact hSh)⟩, rfl⟩ hP hD hS dX9_copy_62
          · replace c_174 := bI_f c_174
            refine lv_aload hx hb dX9_copy_47 (lv_at hl 0 rfl) ?_
            refine kR_i (As := []) (rest := []) (q0 := 18) ⟨hx, hb, hml, hown, hts⟩ (x_X6_isMissing18 l D cy a _ J (va_up I 10 (I 10)) O (va_up (va_up (va_up (va_up R 13 (R 13)) 15 (R 15)) 17 (R 17)) 19 (R 19)) RO LL Y   ) (cwV 0 hts gX9_copy_X6_isMissing rfl rfl rfl (by decide +kernel) ⟨Nat.le_of_ble_eq_true rfl, Nat.le_of_ble_eq_true rfl⟩) hK hN hP hD rfl rfl rfl hl.1 rfl (Nat.le_of_ble_eq_true rfl) dX9_copy_49 ⟨Nat.le_of_ble_eq_true rfl, Nat.le_of_ble_eq_true rfl⟩ ?_
            refine lv_if_eq (tgt := 63) hx hb dX9_copy_52 (by decide) (fun c_177 => ?_) (fun c_177 => ?_)
            · replace c_177 := bI_f c_177
              refine lv_aload hx hb dX9_copy_63 (lv_at hl 1 rfl) ?_
              refine va_get (D := D) (ci := 5) (v := .int (I 513)) (C := RX6) (T := TX6) (N := 3) hx hb hts hi6 hown hK hP 16 rfl rfl 1 (by decide) hw3 (fun _ h9 => h9) rfl dX9_copy_65 ?_
              refine lv_aload hx hb dX9_copy_68 (lv_at hl 0 rfl) ?_
              refine va_get (D := D) (ci := 5) (v := .int (I 577)) (C := RX6) (T := TX6) (N := 3) hx hb hts hi6 hown hK hP 18 rfl rfl 1 (by decide) hw3 (fun _ h9 => h9) rfl dX9_copy_70 ?_
              refine lv_icmp_eq (tgt := 83) hx hb dX9_copy_73 (by decide) (fun c_178 => ?_) (fun c_178 => ?_)
              · refine lv_aload hx hb dX9_copy_83 (lv_at hl 1 rfl) ?_
                refine lv_iload_n hx hb dX9_copy_85 rfl (lv_at hl 4 rfl) ?_
                refine lv_iload hx hb dX9_copy_86 (lv_at hl 7 rfl) ?_
                refine kR_i (As := [.int x1, .int x4]) (rest := []) (q0 := 16) ⟨hx, hb, hml, hown, hts⟩ (x_X6_hasRange16 l D cy a _ J (va_up I 10 (I 10)) O (va_up (va_up (va_up (va_up R 13 (R 13)) 15 (R 15)) 17 (R 17)) 19 (R 19)) RO LL Y x1 x4  ) (cwV 2 hts gX9_copy_X6_hasRange rfl rfl rfl (by decide +kernel) ⟨Nat.le_of_ble_eq_true rfl, Nat.le_of_ble_eq_true rfl⟩) hK hN hP hD rfl rfl rfl hl.1 rfl (Nat.le_of_ble_eq_true rfl) dX9_copy_88 ⟨Nat.le_of_ble_eq_true rfl, Nat.le_of_ble_eq_true rfl⟩ ?_
                refine lv_if_eq (tgt := 106) hx hb dX9_copy_91 (by decide) (fun c_179 => ?_) (fun c_179 => ?_)
                · replace c_179 := bI_f c_179
                  refine lv_aload_n hx hb dX9_copy_106 rfl (lv_at hl 2 rfl) ?_
                  refine lv_ldc (v := (-100001)) hx hb hown hw0 dX9_copy_107 ?_
                  refine kM_i (As := [.int (-100001)]) (rest := []) (q0 := 0) ⟨hx, hb, hml, hown, hts⟩ (t_X9_finding l D cy a _ J (va_up I 10 (I 10)) O (va_up (va_up (va_up (va_up R 13 (R 13)) 15 (R 15)) 17 (R 17)) 19 (R 19)) RO LL Y ((-100001) : Int32)   ) (cwV 1 hts gX9_copy_X9_finding rfl rfl rfl (by decide +kernel) ⟨Nat.le_of_ble_eq_true rfl, Nat.le_of_ble_eq_true rfl⟩) hK hN hP hD hS hA rfl rfl rfl hl.1 rfl (Nat.le_of_ble_eq_true rfl) dX9_copy_109 ⟨Nat.le_of_ble_eq_true rfl, Nat.le_of_ble_eq_true rfl⟩ (fun r_180 u H locs hw hP hD hS => ?_)
                  obtain ⟨w_181, rfl, rfl⟩ := hw
                  have hP : va_P D vwCl (CT cy a J (va_up I 10 w_181) O (va_up (va_up (va_up (va_up R 13 (R 13)) 15 (R 15)) 17 (R 17)) 19 (R 19)) RO (LL ++ Y)) H := hP
                  have hD : va_D A (CT cy a J (va_up I 10 w_181) O (va_up (va_up (va_up (va_up R 13 (R 13)) 15 (R 15)) 17 (R 17)) 19 (R 19)) RO (LL ++ Y)) := hD
                  exact wret_i hx hb hr hlocks (J, (va_up I 10 w_181), O, (va_up (va_up (va_up (va_up R 13 (R 13)) 15 (R 15)) 17 (R 17)) 19 (R 19)), RO, LL, Y) ⟨w_181, (R 13), (R 15), (R 17), (R 19), ⟨(cp_no (V := Vs) (cw4 c_1 c_4 (nb0 (by rw [hj_5]; rfl) hSh.2.2.1 c_174) (nb0 (by rw [hj_128]; rfl) hSh.2.2.2 c_177) (by rw [bq (by rw [hj_5]; rfl) hSh.2.2.1, bq (by rw [hj_128]; rfl) hSh.2.2.2]; exact c_178) (ck_f1 (by rw [hj_5]; rfl) hSh.2.2.1 c_179)) (by decide)).1, (by rw [(cp_no (cw4 c_1 c_4 (nb0 (by rw [hj_5]; rfl) hSh.2.2.1 c_174) (nb0 (by rw [hj_128]; rfl) hSh.2.2.2 c_177) (by rw [bq (by rw [hj_5]; rfl) hSh.2.2.1, bq (by rw [hj_128]; rfl) hSh.2.2.2]; exact c_178) (ck_f1 (by rw [hj_5]; rfl) hSh.2.2.1 c_179)) (by decide)).2]; exact hSh)⟩, rfl⟩ hP hD hS dX9_copy_112
                · replace c_179 := bI_t c_179
                  refine lv_aload hx hb dX9_copy_94 (lv_at hl 0 rfl) ?_
                  refine lv_iload hx hb dX9_copy_96 (lv_at hl 6 rfl) ?_
                  refine lv_iload hx hb dX9_copy_98 (lv_at hl 7 rfl) ?_
                  refine kR_i (As := [.int x3, .int x4]) (rest := []) (q0 := 18) ⟨hx, hb, hml, hown, hts⟩ (x_X6_hasRange18 l D cy a _ J (va_up I 10 (I 10)) O (va_up (va_up (va_up (va_up R 13 (R 13)) 15 (R 15)) 17 (R 17)) 19 (R 19)) RO LL Y x3 x4  ) (cwV 2 hts gX9_copy_X6_hasRange rfl rfl rfl (by decide +kernel) ⟨Nat.le_of_ble_eq_true rfl, Nat.le_of_ble_eq_true rfl⟩) hK hN hP hD rfl rfl rfl hl.1 rfl (Nat.le_of_ble_eq_true rfl) dX9_copy_100 ⟨Nat.le_of_ble_eq_true rfl, Nat.le_of_ble_eq_true rfl⟩ ?_
                  refine lv_if_ne (tgt := 113) hx hb dX9_copy_103 (by decide) (fun c_182 => ?_) (fun c_182 => ?_)
                  · replace c_182 := bI_t c_182
                    refine lv_aload hx hb dX9_copy_113 (lv_at hl 1 rfl) ?_
                    refine va_get (D := D) (ci := 5) (v := .ref (a 17)) (C := RX6) (T := TX6) (N := 3) hx hb hts hi6 hown hK hP 16 rfl rfl 0 (by decide) hw4 (fun _ h9 => h9) rfl dX9_copy_115 ?_
                    refine lv_iload_n hx hb dX9_copy_118 rfl (lv_at hl 4 rfl) ?_
                    refine lv_aload hx hb dX9_copy_119 (lv_at hl 0 rfl) ?_
                    refine va_get (D := D) (ci := 5) (v := .ref (a 19)) (C := RX6) (T := TX6) (N := 3) hx hb hts hi6 hown hK hP 18 rfl rfl 0 (by decide) hw4 (fun _ h9 => h9) rfl dX9_copy_121 ?_
                    refine lv_iload hx hb dX9_copy_124 (lv_at hl 6 rfl) ?_
                    refine lv_iload hx hb dX9_copy_126 (lv_at hl 7 rfl) ?_
                    refine va_copyi hx hb (by rw [hml]; exact hl.1.symm) hown hw5 hw6 hw7 hw8 hK hP hD hS 17 19 0 0 rfl rfl rfl rfl rfl (rng_hr hSh.2.2.1 c_179).1 (rng_hr hSh.2.2.2 c_182).1 (rng_hr hSh.2.2.1 c_179).2.1 (rng_hr hSh.2.2.1 c_179).2.2 (rng_hr hSh.2.2.2 c_182).2.2 (fun _ _ => rfl) (Nat.le_of_ble_eq_true rfl) (Nat.le_of_ble_eq_true rfl) dX9_copy_128 (fun H locs hP hD hS => ?_)
                    have hP : va_P D vwCl (CT cy a J (va_up I 10 (I 10)) O (va_up (va_up (va_up (va_up R 13 (R 13)) 15 (R 15)) 17 (R 17)) 19 (va_cpy (R 17) (R 19) x1.toNatClampNeg x3.toNatClampNeg x4.toNatClampNeg)) RO (LL ++ Y)) H := hP
                    have hD : va_D A (CT cy a J (va_up I 10 (I 10)) O (va_up (va_up (va_up (va_up R 13 (R 13)) 15 (R 15)) 17 (R 17)) 19 (va_cpy (R 17) (R 19) x1.toNatClampNeg x3.toNatClampNeg x4.toNatClampNeg)) RO (LL ++ Y)) := hD
                    refine lv_iload hx hb dX9_copy_131 (lv_at hl 7 rfl) ?_
                    exact wret_i hx hb hr hlocks (J, (va_up I 10 (I 10)), O, (va_up (va_up (va_up (va_up R 13 (R 13)) 15 (R 15)) 17 (R 17)) 19 (va_cpy (R 17) (R 19) x1.toNatClampNeg x3.toNatClampNeg x4.toNatClampNeg)), RO, LL, Y) ⟨(I 10), (R 13), (R 15), (R 17), (va_cpy (R 17) (R 19) x1.toNatClampNeg x3.toNatClampNeg x4.toNatClampNeg), ⟨(cp_yes (V := Vs) (cw5 c_1 c_4 (nb0 (by rw [hj_5]; rfl) hSh.2.2.1 c_174) (nb0 (by rw [hj_128]; rfl) hSh.2.2.2 c_177) (by rw [bq (by rw [hj_5]; rfl) hSh.2.2.1, bq (by rw [hj_128]; rfl) hSh.2.2.2]; exact c_178) (ck_t (by rw [hj_5]; rfl) hSh.2.2.1 (by rw [hj_128]; rfl) hSh.2.2.2 c_179 c_182))).1, (by rw [(cp_yes (cw5 c_1 c_4 (nb0 (by rw [hj_5]; rfl) hSh.2.2.1 c_174) (nb0 (by rw [hj_128]; rfl) hSh.2.2.2 c_177) (by rw [bq (by rw [hj_5]; rfl) hSh.2.2.1, bq (by rw [hj_128]; rfl) hSh.2.2.2]; exact c_178) (ck_t (by rw [hj_5]; rfl) hSh.2.2.1 (by rw [hj_128]; rfl) hSh.2.2.2 c_179 c_182))).2]; exact RCs_v3 (by rw [hj_128]; rfl) hSh (ck_v (by rw [hj_5]; rfl) hSh.2.2.1 (by rw [hj_128]; rfl) hSh.2.2.2 c_179 c_182))⟩, rfl⟩ hP hD hS dX9_copy_133
                  · replace c_182 := bI_f c_182
                    refine lv_aload_n hx hb dX9_copy_106 rfl (lv_at hl 2 rfl) ?_
                    refine lv_ldc (v := (-100001)) hx hb hown hw0 dX9_copy_107 ?_
                    refine kM_i (As := [.int (-100001)]) (rest := []) (q0 := 0) ⟨hx, hb, hml, hown, hts⟩ (t_X9_finding l D cy a _ J (va_up I 10 (I 10)) O (va_up (va_up (va_up (va_up R 13 (R 13)) 15 (R 15)) 17 (R 17)) 19 (R 19)) RO LL Y ((-100001) : Int32)   ) (cwV 1 hts gX9_copy_X9_finding rfl rfl rfl (by decide +kernel) ⟨Nat.le_of_ble_eq_true rfl, Nat.le_of_ble_eq_true rfl⟩) hK hN hP hD hS hA rfl rfl rfl hl.1 rfl (Nat.le_of_ble_eq_true rfl) dX9_copy_109 ⟨Nat.le_of_ble_eq_true rfl, Nat.le_of_ble_eq_true rfl⟩ (fun r_183 u H locs hw hP hD hS => ?_)
                    obtain ⟨w_184, rfl, rfl⟩ := hw
                    have hP : va_P D vwCl (CT cy a J (va_up I 10 w_184) O (va_up (va_up (va_up (va_up R 13 (R 13)) 15 (R 15)) 17 (R 17)) 19 (R 19)) RO (LL ++ Y)) H := hP
                    have hD : va_D A (CT cy a J (va_up I 10 w_184) O (va_up (va_up (va_up (va_up R 13 (R 13)) 15 (R 15)) 17 (R 17)) 19 (R 19)) RO (LL ++ Y)) := hD
                    exact wret_i hx hb hr hlocks (J, (va_up I 10 w_184), O, (va_up (va_up (va_up (va_up R 13 (R 13)) 15 (R 15)) 17 (R 17)) 19 (R 19)), RO, LL, Y) ⟨w_184, (R 13), (R 15), (R 17), (R 19), ⟨(cp_no (V := Vs) (cw4 c_1 c_4 (nb0 (by rw [hj_5]; rfl) hSh.2.2.1 c_174) (nb0 (by rw [hj_128]; rfl) hSh.2.2.2 c_177) (by rw [bq (by rw [hj_5]; rfl) hSh.2.2.1, bq (by rw [hj_128]; rfl) hSh.2.2.2]; exact c_178) (ck_f2 (by rw [hj_128]; rfl) hSh.2.2.2 c_182)) (by decide)).1, (by rw [(cp_no (cw4 c_1 c_4 (nb0 (by rw [hj_5]; rfl) hSh.2.2.1 c_174) (nb0 (by rw [hj_128]; rfl) hSh.2.2.2 c_177) (by rw [bq (by rw [hj_5]; rfl) hSh.2.2.1, bq (by rw [hj_128]; rfl) hSh.2.2.2]; exact c_178) (ck_f2 (by rw [hj_128]; rfl) hSh.2.2.2 c_182)) (by decide)).2]; exact hSh)⟩, rfl⟩ hP hD hS dX9_copy_112
              · refine lv_aload_n hx hb dX9_copy_76 rfl (lv_at hl 2 rfl) ?_
                refine lv_ldc (v := (-100004)) hx hb hown hw9 dX9_copy_77 ?_
                refine kM_i (As := [.int (-100004)]) (rest := []) (q0 := 0) ⟨hx, hb, hml, hown, hts⟩ (t_X9_finding l D cy a _ J (va_up I 10 (I 10)) O (va_up (va_up (va_up (va_up R 13 (R 13)) 15 (R 15)) 17 (R 17)) 19 (R 19)) RO LL Y ((-100004) : Int32)   ) (cwV 1 hts gX9_copy_X9_finding rfl rfl rfl (by decide +kernel) ⟨Nat.le_of_ble_eq_true rfl, Nat.le_of_ble_eq_true rfl⟩) hK hN hP hD hS hA rfl rfl rfl hl.1 rfl (Nat.le_of_ble_eq_true rfl) dX9_copy_79 ⟨Nat.le_of_ble_eq_true rfl, Nat.le_of_ble_eq_true rfl⟩ (fun r_185 u H locs hw hP hD hS => ?_)
                obtain ⟨w_186, rfl, rfl⟩ := hw
                have hP : va_P D vwCl (CT cy a J (va_up I 10 w_186) O (va_up (va_up (va_up (va_up R 13 (R 13)) 15 (R 15)) 17 (R 17)) 19 (R 19)) RO (LL ++ Y)) H := hP
                have hD : va_D A (CT cy a J (va_up I 10 w_186) O (va_up (va_up (va_up (va_up R 13 (R 13)) 15 (R 15)) 17 (R 17)) 19 (R 19)) RO (LL ++ Y)) := hD
                exact wret_i hx hb hr hlocks (J, (va_up I 10 w_186), O, (va_up (va_up (va_up (va_up R 13 (R 13)) 15 (R 15)) 17 (R 17)) 19 (R 19)), RO, LL, Y) ⟨w_186, (R 13), (R 15), (R 17), (R 19), ⟨(cp_no (V := Vs) (cw3 c_1 c_4 (nb0 (by rw [hj_5]; rfl) hSh.2.2.1 c_174) (nb0 (by rw [hj_128]; rfl) hSh.2.2.2 c_177) (by rw [bq (by rw [hj_5]; rfl) hSh.2.2.1, bq (by rw [hj_128]; rfl) hSh.2.2.2]; exact c_178)) (by decide)).1, (by rw [(cp_no (cw3 c_1 c_4 (nb0 (by rw [hj_5]; rfl) hSh.2.2.1 c_174) (nb0 (by rw [hj_128]; rfl) hSh.2.2.2 c_177) (by rw [bq (by rw [hj_5]; rfl) hSh.2.2.1, bq (by rw [hj_128]; rfl) hSh.2.2.2]; exact c_178)) (by decide)).2]; exact hSh)⟩, rfl⟩ hP hD hS dX9_copy_82
            · replace c_177 := bI_t c_177
              refine lv_aload_n hx hb dX9_copy_55 rfl (lv_at hl 2 rfl) ?_
              refine lv_ldcw (v := (-100002)) hx hb hown hw2 dX9_copy_56 ?_
              refine kM_i (As := [.int (-100002)]) (rest := []) (q0 := 0) ⟨hx, hb, hml, hown, hts⟩ (t_X9_finding l D cy a _ J (va_up I 10 (I 10)) O (va_up (va_up (va_up (va_up R 13 (R 13)) 15 (R 15)) 17 (R 17)) 19 (R 19)) RO LL Y ((-100002) : Int32)   ) (cwV 1 hts gX9_copy_X9_finding rfl rfl rfl (by decide +kernel) ⟨Nat.le_of_ble_eq_true rfl, Nat.le_of_ble_eq_true rfl⟩) hK hN hP hD hS hA rfl rfl rfl hl.1 rfl (Nat.le_of_ble_eq_true rfl) dX9_copy_59 ⟨Nat.le_of_ble_eq_true rfl, Nat.le_of_ble_eq_true rfl⟩ (fun r_187 u H locs hw hP hD hS => ?_)
              obtain ⟨w_188, rfl, rfl⟩ := hw
              have hP : va_P D vwCl (CT cy a J (va_up I 10 w_188) O (va_up (va_up (va_up (va_up R 13 (R 13)) 15 (R 15)) 17 (R 17)) 19 (R 19)) RO (LL ++ Y)) H := hP
              have hD : va_D A (CT cy a J (va_up I 10 w_188) O (va_up (va_up (va_up (va_up R 13 (R 13)) 15 (R 15)) 17 (R 17)) 19 (R 19)) RO (LL ++ Y)) := hD
              exact wret_i hx hb hr hlocks (J, (va_up I 10 w_188), O, (va_up (va_up (va_up (va_up R 13 (R 13)) 15 (R 15)) 17 (R 17)) 19 (R 19)), RO, LL, Y) ⟨w_188, (R 13), (R 15), (R 17), (R 19), ⟨(cp_no (V := Vs) (cw2 c_1 c_4 (Or.inr (eb0 (by rw [hj_128]; rfl) hSh.2.2.2 c_177))) (by decide)).1, (by rw [(cp_no (cw2 c_1 c_4 (Or.inr (eb0 (by rw [hj_128]; rfl) hSh.2.2.2 c_177))) (by decide)).2]; exact hSh)⟩, rfl⟩ hP hD hS dX9_copy_62
      · refine wtop_v (y := .ref (a 18)) (by rw [hj_5]; exact congrArg va_rf hRO3) ?_
        refine lv_astore (lv' := [(6, .ref (a 18)), (0, .ref (a 0)), (1, .int x0), (2, .int x1), (3, .int x2), (4, .int x3), (5, .int x4)]) hx hb dX9_copy_29 hl (by decide) rfl (fun ls hl => ?_)
        refine lv_aload_n hx hb dX9_copy_31 rfl (lv_at hl 1 rfl) ?_
        refine va_get (D := D) (ci := 8) (v := .ref (a 1)) (C := RX9) (T := TX9) (N := 11) hx hb hts hi9 hown hK hP 0 rfl rfl 0 (by decide) hw1 (fun _ h9 => h9) rfl dX9_copy_32 ?_
        refine lv_iload_n hx hb dX9_copy_35 rfl (lv_at hl 4 rfl) ?_
        refine va_aldq hx hb hK hP 1 4 rfl rfl (within_in4 c_4) dX9_copy_36 ?_
        rcases in4 (within_in4 c_4) with hj_189 | hj_189 | hj_189 | hj_189
        · refine wtop_v (y := .ref (a 12)) (by rw [hj_189]; exact congrArg va_rf hRO0) ?_
          refine lv_astore (lv' := [(7, .ref (a 12)), (6, .ref (a 18)), (0, .ref (a 0)), (1, .int x0), (2, .int x1), (3, .int x2), (4, .int x3), (5, .int x4)]) hx hb dX9_copy_37 hl (by decide) rfl (fun ls hl => ?_)
          refine lv_aload hx hb dX9_copy_39 (lv_at hl 1 rfl) ?_
          refine kR_i (As := []) (rest := []) (q0 := 18) ⟨hx, hb, hml, hown, hts⟩ (x_X6_isMissing18 l D cy a _ J (va_up I 10 (I 10)) O (va_up (va_up (va_up (va_up R 13 (R 13)) 15 (R 15)) 17 (R 17)) 19 (R 19)) RO LL Y   ) (cwV 0 hts gX9_copy_X6_isMissing rfl rfl rfl (by decide +kernel) ⟨Nat.le_of_ble_eq_true rfl, Nat.le_of_ble_eq_true rfl⟩) hK hN hP hD rfl rfl rfl hl.1 rfl (Nat.le_of_ble_eq_true rfl) dX9_copy_41 ⟨Nat.le_of_ble_eq_true rfl, Nat.le_of_ble_eq_true rfl⟩ ?_
          refine lv_if_ne (tgt := 55) hx hb dX9_copy_44 (by decide) (fun c_190 => ?_) (fun c_190 => ?_)
          · replace c_190 := bI_t c_190
            refine lv_aload_n hx hb dX9_copy_55 rfl (lv_at hl 2 rfl) ?_
            refine lv_ldcw (v := (-100002)) hx hb hown hw2 dX9_copy_56 ?_
            refine kM_i (As := [.int (-100002)]) (rest := []) (q0 := 0) ⟨hx, hb, hml, hown, hts⟩ (t_X9_finding l D cy a _ J (va_up I 10 (I 10)) O (va_up (va_up (va_up (va_up R 13 (R 13)) 15 (R 15)) 17 (R 17)) 19 (R 19)) RO LL Y ((-100002) : Int32)   ) (cwV 1 hts gX9_copy_X9_finding rfl rfl rfl (by decide +kernel) ⟨Nat.le_of_ble_eq_true rfl, Nat.le_of_ble_eq_true rfl⟩) hK hN hP hD hS hA rfl rfl rfl hl.1 rfl (Nat.le_of_ble_eq_true rfl) dX9_copy_59 ⟨Nat.le_of_ble_eq_true rfl, Nat.le_of_ble_eq_true rfl⟩ (fun r_191 u H locs hw hP hD hS => ?_)
            obtain ⟨w_192, rfl, rfl⟩ := hw
            have hP : va_P D vwCl (CT cy a J (va_up I 10 w_192) O (va_up (va_up (va_up (va_up R 13 (R 13)) 15 (R 15)) 17 (R 17)) 19 (R 19)) RO (LL ++ Y)) H := hP
            have hD : va_D A (CT cy a J (va_up I 10 w_192) O (va_up (va_up (va_up (va_up R 13 (R 13)) 15 (R 15)) 17 (R 17)) 19 (R 19)) RO (LL ++ Y)) := hD
            exact wret_i hx hb hr hlocks (J, (va_up I 10 w_192), O, (va_up (va_up (va_up (va_up R 13 (R 13)) 15 (R 15)) 17 (R 17)) 19 (R 19)), RO, LL, Y) ⟨w_192, (R 13), (R 15), (R 17), (R 19), ⟨(cp_no (V := Vs) (cw2 c_1 c_4 (Or.inl (eb0 (by rw [hj_5]; rfl) hSh.2.2.2 c_190))) (by decide)).1, (by rw [(cp_no (cw2 c_1 c_4 (Or.inl (eb0 (by rw [hj_5]; rfl) hSh.2.2.2 c_190))) (by decide)).2]; exact hSh)⟩, rfl⟩ hP hD hS dX9_copy_62
          · replace c_190 := bI_f c_190
            refine lv_aload hx hb dX9_copy_47 (lv_at hl 0 rfl) ?_
            refine kR_i (As := []) (rest := []) (q0 := 12) ⟨hx, hb, hml, hown, hts⟩ (x_X6_isMissing12 l D cy a _ J (va_up I 10 (I 10)) O (va_up (va_up (va_up (va_up R 13 (R 13)) 15 (R 15)) 17 (R 17)) 19 (R 19)) RO LL Y   ) (cwV 0 hts gX9_copy_X6_isMissing rfl rfl rfl (by decide +kernel) ⟨Nat.le_of_ble_eq_true rfl, Nat.le_of_ble_eq_true rfl⟩) hK hN hP hD rfl rfl rfl hl.1 rfl (Nat.le_of_ble_eq_true rfl) dX9_copy_49 ⟨Nat.le_of_ble_eq_true rfl, Nat.le_of_ble_eq_true rfl⟩ ?_
            refine lv_if_eq (tgt := 63) hx hb dX9_copy_52 (by decide) (fun c_193 => ?_) (fun c_193 => ?_)
            · replace c_193 := bI_f c_193
              refine lv_aload hx hb dX9_copy_63 (lv_at hl 1 rfl) ?_
              refine va_get (D := D) (ci := 5) (v := .int (I 577)) (C := RX6) (T := TX6) (N := 3) hx hb hts hi6 hown hK hP 18 rfl rfl 1 (by decide) hw3 (fun _ h9 => h9) rfl dX9_copy_65 ?_
              refine lv_aload hx hb dX9_copy_68 (lv_at hl 0 rfl) ?_
              refine va_get (D := D) (ci := 5) (v := .int (I 385)) (C := RX6) (T := TX6) (N := 3) hx hb hts hi6 hown hK hP 12 rfl rfl 1 (by decide) hw3 (fun _ h9 => h9) rfl dX9_copy_70 ?_
              refine lv_icmp_eq (tgt := 83) hx hb dX9_copy_73 (by decide) (fun c_194 => ?_) (fun c_194 => ?_)
              · refine lv_aload hx hb dX9_copy_83 (lv_at hl 1 rfl) ?_
                refine lv_iload_n hx hb dX9_copy_85 rfl (lv_at hl 4 rfl) ?_
                refine lv_iload hx hb dX9_copy_86 (lv_at hl 7 rfl) ?_
                refine kR_i (As := [.int x1, .int x4]) (rest := []) (q0 := 18) ⟨hx, hb, hml, hown, hts⟩ (x_X6_hasRange18 l D cy a _ J (va_up I 10 (I 10)) O (va_up (va_up (va_up (va_up R 13 (R 13)) 15 (R 15)) 17 (R 17)) 19 (R 19)) RO LL Y x1 x4  ) (cwV 2 hts gX9_copy_X6_hasRange rfl rfl rfl (by decide +kernel) ⟨Nat.le_of_ble_eq_true rfl, Nat.le_of_ble_eq_true rfl⟩) hK hN hP hD rfl rfl rfl hl.1 rfl (Nat.le_of_ble_eq_true rfl) dX9_copy_88 ⟨Nat.le_of_ble_eq_true rfl, Nat.le_of_ble_eq_true rfl⟩ ?_
                refine lv_if_eq (tgt := 106) hx hb dX9_copy_91 (by decide) (fun c_195 => ?_) (fun c_195 => ?_)
                · replace c_195 := bI_f c_195
                  refine lv_aload_n hx hb dX9_copy_106 rfl (lv_at hl 2 rfl) ?_
                  refine lv_ldc (v := (-100001)) hx hb hown hw0 dX9_copy_107 ?_
                  refine kM_i (As := [.int (-100001)]) (rest := []) (q0 := 0) ⟨hx, hb, hml, hown, hts⟩ (t_X9_finding l D cy a _ J (va_up I 10 (I 10)) O (va_up (va_up (va_up (va_up R 13 (R 13)) 15 (R 15)) 17 (R 17)) 19 (R 19)) RO LL Y ((-100001) : Int32)   ) (cwV 1 hts gX9_copy_X9_finding rfl rfl rfl (by decide +kernel) ⟨Nat.le_of_ble_eq_true rfl, Nat.le_of_ble_eq_true rfl⟩) hK hN hP hD hS hA rfl rfl rfl hl.1 rfl (Nat.le_of_ble_eq_true rfl) dX9_copy_109 ⟨Nat.le_of_ble_eq_true rfl, Nat.le_of_ble_eq_true rfl⟩ (fun r_196 u H locs hw hP hD hS => ?_)
                  obtain ⟨w_197, rfl, rfl⟩ := hw
                  have hP : va_P D vwCl (CT cy a J (va_up I 10 w_197) O (va_up (va_up (va_up (va_up R 13 (R 13)) 15 (R 15)) 17 (R 17)) 19 (R 19)) RO (LL ++ Y)) H := hP
                  have hD : va_D A (CT cy a J (va_up I 10 w_197) O (va_up (va_up (va_up (va_up R 13 (R 13)) 15 (R 15)) 17 (R 17)) 19 (R 19)) RO (LL ++ Y)) := hD
                  exact wret_i hx hb hr hlocks (J, (va_up I 10 w_197), O, (va_up (va_up (va_up (va_up R 13 (R 13)) 15 (R 15)) 17 (R 17)) 19 (R 19)), RO, LL, Y) ⟨w_197, (R 13), (R 15), (R 17), (R 19), ⟨(cp_no (V := Vs) (cw4 c_1 c_4 (nb0 (by rw [hj_5]; rfl) hSh.2.2.2 c_190) (nb0 (by rw [hj_189]; rfl) hSh.1 c_193) (by rw [bq (by rw [hj_5]; rfl) hSh.2.2.2, bq (by rw [hj_189]; rfl) hSh.1]; exact c_194) (ck_f1 (by rw [hj_5]; rfl) hSh.2.2.2 c_195)) (by decide)).1, (by rw [(cp_no (cw4 c_1 c_4 (nb0 (by rw [hj_5]; rfl) hSh.2.2.2 c_190) (nb0 (by rw [hj_189]; rfl) hSh.1 c_193) (by rw [bq (by rw [hj_5]; rfl) hSh.2.2.2, bq (by rw [hj_189]; rfl) hSh.1]; exact c_194) (ck_f1 (by rw [hj_5]; rfl) hSh.2.2.2 c_195)) (by decide)).2]; exact hSh)⟩, rfl⟩ hP hD hS dX9_copy_112
                · replace c_195 := bI_t c_195
                  refine lv_aload hx hb dX9_copy_94 (lv_at hl 0 rfl) ?_
                  refine lv_iload hx hb dX9_copy_96 (lv_at hl 6 rfl) ?_
                  refine lv_iload hx hb dX9_copy_98 (lv_at hl 7 rfl) ?_
                  refine kR_i (As := [.int x3, .int x4]) (rest := []) (q0 := 12) ⟨hx, hb, hml, hown, hts⟩ (x_X6_hasRange12 l D cy a _ J (va_up I 10 (I 10)) O (va_up (va_up (va_up (va_up R 13 (R 13)) 15 (R 15)) 17 (R 17)) 19 (R 19)) RO LL Y x3 x4  ) (cwV 2 hts gX9_copy_X6_hasRange rfl rfl rfl (by decide +kernel) ⟨Nat.le_of_ble_eq_true rfl, Nat.le_of_ble_eq_true rfl⟩) hK hN hP hD rfl rfl rfl hl.1 rfl (Nat.le_of_ble_eq_true rfl) dX9_copy_100 ⟨Nat.le_of_ble_eq_true rfl, Nat.le_of_ble_eq_true rfl⟩ ?_
                  refine lv_if_ne (tgt := 113) hx hb dX9_copy_103 (by decide) (fun c_198 => ?_) (fun c_198 => ?_)
                  · replace c_198 := bI_t c_198
                    refine lv_aload hx hb dX9_copy_113 (lv_at hl 1 rfl) ?_
                    refine va_get (D := D) (ci := 5) (v := .ref (a 19)) (C := RX6) (T := TX6) (N := 3) hx hb hts hi6 hown hK hP 18 rfl rfl 0 (by decide) hw4 (fun _ h9 => h9) rfl dX9_copy_115 ?_
                    refine lv_iload_n hx hb dX9_copy_118 rfl (lv_at hl 4 rfl) ?_
                    refine lv_aload hx hb dX9_copy_119 (lv_at hl 0 rfl) ?_
                    refine va_get (D := D) (ci := 5) (v := .ref (a 13)) (C := RX6) (T := TX6) (N := 3) hx hb hts hi6 hown hK hP 12 rfl rfl 0 (by decide) hw4 (fun _ h9 => h9) rfl dX9_copy_121 ?_
                    refine lv_iload hx hb dX9_copy_124 (lv_at hl 6 rfl) ?_
                    refine lv_iload hx hb dX9_copy_126 (lv_at hl 7 rfl) ?_
                    refine va_copyi hx hb (by rw [hml]; exact hl.1.symm) hown hw5 hw6 hw7 hw8 hK hP hD hS 19 13 0 0 rfl rfl rfl rfl rfl (rng_hr hSh.2.2.2 c_195).1 (rng_hr hSh.1 c_198).1 (rng_hr hSh.2.2.2 c_195).2.1 (rng_hr hSh.2.2.2 c_195).2.2 (rng_hr hSh.1 c_198).2.2 (fun _ _ => rfl) (Nat.le_of_ble_eq_true rfl) (Nat.le_of_ble_eq_true rfl) dX9_copy_128 (fun H locs hP hD hS => ?_)
                    have hP : va_P D vwCl (CT cy a J (va_up I 10 (I 10)) O (va_up (va_up (va_up (va_up R 13 (va_cpy (R 19) (R 13) x1.toNatClampNeg x3.toNatClampNeg x4.toNatClampNeg)) 15 (R 15)) 17 (R 17)) 19 (R 19)) RO (LL ++ Y)) H := hP
                    have hD : va_D A (CT cy a J (va_up I 10 (I 10)) O (va_up (va_up (va_up (va_up R 13 (va_cpy (R 19) (R 13) x1.toNatClampNeg x3.toNatClampNeg x4.toNatClampNeg)) 15 (R 15)) 17 (R 17)) 19 (R 19)) RO (LL ++ Y)) := hD
                    refine lv_iload hx hb dX9_copy_131 (lv_at hl 7 rfl) ?_
                    exact wret_i hx hb hr hlocks (J, (va_up I 10 (I 10)), O, (va_up (va_up (va_up (va_up R 13 (va_cpy (R 19) (R 13) x1.toNatClampNeg x3.toNatClampNeg x4.toNatClampNeg)) 15 (R 15)) 17 (R 17)) 19 (R 19)), RO, LL, Y) ⟨(I 10), (va_cpy (R 19) (R 13) x1.toNatClampNeg x3.toNatClampNeg x4.toNatClampNeg), (R 15), (R 17), (R 19), ⟨(cp_yes (V := Vs) (cw5 c_1 c_4 (nb0 (by rw [hj_5]; rfl) hSh.2.2.2 c_190) (nb0 (by rw [hj_189]; rfl) hSh.1 c_193) (by rw [bq (by rw [hj_5]; rfl) hSh.2.2.2, bq (by rw [hj_189]; rfl) hSh.1]; exact c_194) (ck_t (by rw [hj_5]; rfl) hSh.2.2.2 (by rw [hj_189]; rfl) hSh.1 c_195 c_198))).1, (by rw [(cp_yes (cw5 c_1 c_4 (nb0 (by rw [hj_5]; rfl) hSh.2.2.2 c_190) (nb0 (by rw [hj_189]; rfl) hSh.1 c_193) (by rw [bq (by rw [hj_5]; rfl) hSh.2.2.2, bq (by rw [hj_189]; rfl) hSh.1]; exact c_194) (ck_t (by rw [hj_5]; rfl) hSh.2.2.2 (by rw [hj_189]; rfl) hSh.1 c_195 c_198))).2]; exact RCs_v0 (by rw [hj_189]; rfl) hSh (ck_v (by rw [hj_5]; rfl) hSh.2.2.2 (by rw [hj_189]; rfl) hSh.1 c_195 c_198))⟩, rfl⟩ hP hD hS dX9_copy_133
                  · replace c_198 := bI_f c_198
                    refine lv_aload_n hx hb dX9_copy_106 rfl (lv_at hl 2 rfl) ?_
                    refine lv_ldc (v := (-100001)) hx hb hown hw0 dX9_copy_107 ?_
                    refine kM_i (As := [.int (-100001)]) (rest := []) (q0 := 0) ⟨hx, hb, hml, hown, hts⟩ (t_X9_finding l D cy a _ J (va_up I 10 (I 10)) O (va_up (va_up (va_up (va_up R 13 (R 13)) 15 (R 15)) 17 (R 17)) 19 (R 19)) RO LL Y ((-100001) : Int32)   ) (cwV 1 hts gX9_copy_X9_finding rfl rfl rfl (by decide +kernel) ⟨Nat.le_of_ble_eq_true rfl, Nat.le_of_ble_eq_true rfl⟩) hK hN hP hD hS hA rfl rfl rfl hl.1 rfl (Nat.le_of_ble_eq_true rfl) dX9_copy_109 ⟨Nat.le_of_ble_eq_true rfl, Nat.le_of_ble_eq_true rfl⟩ (fun r_199 u H locs hw hP hD hS => ?_)
                    obtain ⟨w_200, rfl, rfl⟩ := hw
                    have hP : va_P D vwCl (CT cy a J (va_up I 10 w_200) O (va_up (va_up (va_up (va_up R 13 (R 13)) 15 (R 15)) 17 (R 17)) 19 (R 19)) RO (LL ++ Y)) H := hP
                    have hD : va_D A (CT cy a J (va_up I 10 w_200) O (va_up (va_up (va_up (va_up R 13 (R 13)) 15 (R 15)) 17 (R 17)) 19 (R 19)) RO (LL ++ Y)) := hD
                    exact wret_i hx hb hr hlocks (J, (va_up I 10 w_200), O, (va_up (va_up (va_up (va_up R 13 (R 13)) 15 (R 15)) 17 (R 17)) 19 (R 19)), RO, LL, Y) ⟨w_200, (R 13), (R 15), (R 17), (R 19), ⟨(cp_no (V := Vs) (cw4 c_1 c_4 (nb0 (by rw [hj_5]; rfl) hSh.2.2.2 c_190) (nb0 (by rw [hj_189]; rfl) hSh.1 c_193) (by rw [bq (by rw [hj_5]; rfl) hSh.2.2.2, bq (by rw [hj_189]; rfl) hSh.1]; exact c_194) (ck_f2 (by rw [hj_189]; rfl) hSh.1 c_198)) (by decide)).1, (by rw [(cp_no (cw4 c_1 c_4 (nb0 (by rw [hj_5]; rfl) hSh.2.2.2 c_190) (nb0 (by rw [hj_189]; rfl) hSh.1 c_193) (by rw [bq (by rw [hj_5]; rfl) hSh.2.2.2, bq (by rw [hj_189]; rfl) hSh.1]; exact c_194) (ck_f2 (by rw [hj_189]; rfl) hSh.1 c_198)) (by decide)).2]; exact hSh)⟩, rfl⟩ hP hD hS dX9_copy_112
              · refine lv_aload_n hx hb dX9_copy_76 rfl (lv_at hl 2 rfl) ?_
                refine lv_ldc (v := (-100004)) hx hb hown hw9 dX9_copy_77 ?_
                refine kM_i (As := [.int (-100004)]) (rest := []) (q0 := 0) ⟨hx, hb, hml, hown, hts⟩ (t_X9_finding l D cy a _ J (va_up I 10 (I 10)) O (va_up (va_up (va_up (va_up R 13 (R 13)) 15 (R 15)) 17 (R 17)) 19 (R 19)) RO LL Y ((-100004) : Int32)   ) (cwV 1 hts gX9_copy_X9_finding rfl rfl rfl (by decide +kernel) ⟨Nat.le_of_ble_eq_true rfl, Nat.le_of_ble_eq_true rfl⟩) hK hN hP hD hS hA rfl rfl rfl hl.1 rfl (Nat.le_of_ble_eq_true rfl) dX9_copy_79 ⟨Nat.le_of_ble_eq_true rfl, Nat.le_of_ble_eq_true rfl⟩ (fun r_201 u H locs hw hP hD hS => ?_)
                obtain ⟨w_202, rfl, rfl⟩ := hw
                have hP : va_P D vwCl (CT cy a J (va_up I 10 w_202) O (va_up (va_up (va_up (va_up R 13 (R 13)) 15 (R 15)) 17 (R 17)) 19 (R 19)) RO (LL ++ Y)) H := hP
                have hD : va_D A (CT cy a J (va_up I 10 w_202) O (va_up (va_up (va_up (va_up R 13 (R 13)) 15 (R 15)) 17 (R 17)) 19 (R 19)) RO (LL ++ Y)) := hD
                exact wret_i hx hb hr hlocks (J, (va_up I 10 w_202), O, (va_up (va_up (va_up (va_up R 13 (R 13)) 15 (R 15)) 17 (R 17)) 19 (R 19)), RO, LL, Y) ⟨w_202, (R 13), (R 15), (R 17), (R 19), ⟨(cp_no (V := Vs) (cw3 c_1 c_4 (nb0 (by rw [hj_5]; rfl) hSh.2.2.2 c_190) (nb0 (by rw [hj_189]; rfl) hSh.1 c_193) (by rw [bq (by rw [hj_5]; rfl) hSh.2.2.2, bq (by rw [hj_189]; rfl) hSh.1]; exact c_194)) (by decide)).1, (by rw [(cp_no (cw3 c_1 c_4 (nb0 (by rw [hj_5]; rfl) hSh.2.2.2 c_190) (nb0 (by rw [hj_189]; rfl) hSh.1 c_193) (by rw [bq (by rw [hj_5]; rfl) hSh.2.2.2, bq (by rw [hj_189]; rfl) hSh.1]; exact c_194)) (by decide)).2]; exact hSh)⟩, rfl⟩ hP hD hS dX9_copy_82
            · replace c_193 := bI_t c_193
              refine lv_aload_n hx hb dX9_copy_55 rfl (lv_at hl 2 rfl) ?_
              refine lv_ldcw (v := (-100002)) hx hb hown hw2 dX9_copy_56 ?_
              refine kM_i (As := [.int (-100002)]) (rest := []) (q0 := 0) ⟨hx, hb, hml, hown, hts⟩ (t_X9_finding l D cy a _ J (va_up I 10 (I 10)) O (va_up (va_up (va_up (va_up R 13 (R 13)) 15 (R 15)) 17 (R 17)) 19 (R 19)) RO LL Y ((-100002) : Int32)   ) (cwV 1 hts gX9_copy_X9_finding rfl rfl rfl (by decide +kernel) ⟨Nat.le_of_ble_eq_true rfl, Nat.le_of_ble_eq_true rfl⟩) hK hN hP hD hS hA rfl rfl rfl hl.1 rfl (Nat.le_of_ble_eq_true rfl) dX9_copy_59 ⟨Nat.le_of_ble_eq_true rfl, Nat.le_of_ble_eq_true rfl⟩ (fun r_203 u H locs hw hP hD hS => ?_)
              obtain ⟨w_204, rfl, rfl⟩ := hw
              have hP : va_P D vwCl (CT cy a J (va_up I 10 w_204) O (va_up (va_up (va_up (va_up R 13 (R 13)) 15 (R 15)) 17 (R 17)) 19 (R 19)) RO (LL ++ Y)) H := hP
              have hD : va_D A (CT cy a J (va_up I 10 w_204) O (va_up (va_up (va_up (va_up R 13 (R 13)) 15 (R 15)) 17 (R 17)) 19 (R 19)) RO (LL ++ Y)) := hD
              exact wret_i hx hb hr hlocks (J, (va_up I 10 w_204), O, (va_up (va_up (va_up (va_up R 13 (R 13)) 15 (R 15)) 17 (R 17)) 19 (R 19)), RO, LL, Y) ⟨w_204, (R 13), (R 15), (R 17), (R 19), ⟨(cp_no (V := Vs) (cw2 c_1 c_4 (Or.inr (eb0 (by rw [hj_189]; rfl) hSh.1 c_193))) (by decide)).1, (by rw [(cp_no (cw2 c_1 c_4 (Or.inr (eb0 (by rw [hj_189]; rfl) hSh.1 c_193))) (by decide)).2]; exact hSh)⟩, rfl⟩ hP hD hS dX9_copy_62
        · refine wtop_v (y := .ref (a 14)) (by rw [hj_189]; exact congrArg va_rf hRO1) ?_
          refine lv_astore (lv' := [(7, .ref (a 14)), (6, .ref (a 18)), (0, .ref (a 0)), (1, .int x0), (2, .int x1), (3, .int x2), (4, .int x3), (5, .int x4)]) hx hb dX9_copy_37 hl (by decide) rfl (fun ls hl => ?_)
          refine lv_aload hx hb dX9_copy_39 (lv_at hl 1 rfl) ?_
          refine kR_i (As := []) (rest := []) (q0 := 18) ⟨hx, hb, hml, hown, hts⟩ (x_X6_isMissing18 l D cy a _ J (va_up I 10 (I 10)) O (va_up (va_up (va_up (va_up R 13 (R 13)) 15 (R 15)) 17 (R 17)) 19 (R 19)) RO LL Y   ) (cwV 0 hts gX9_copy_X6_isMissing rfl rfl rfl (by decide +kernel) ⟨Nat.le_of_ble_eq_true rfl, Nat.le_of_ble_eq_true rfl⟩) hK hN hP hD rfl rfl rfl hl.1 rfl (Nat.le_of_ble_eq_true rfl) dX9_copy_41 ⟨Nat.le_of_ble_eq_true rfl, Nat.le_of_ble_eq_true rfl⟩ ?_
          refine lv_if_ne (tgt := 55) hx hb dX9_copy_44 (by decide) (fun c_205 => ?_) (fun c_205 => ?_)
          · replace c_205 := bI_t c_205
            refine lv_aload_n hx hb dX9_copy_55 rfl (lv_at hl 2 rfl) ?_
            refine lv_ldcw (v := (-100002)) hx hb hown hw2 dX9_copy_56 ?_
            refine kM_i (As := [.int (-100002)]) (rest := []) (q0 := 0) ⟨hx, hb, hml, hown, hts⟩ (t_X9_finding l D cy a _ J (va_up I 10 (I 10)) O (va_up (va_up (va_up (va_up R 13 (R 13)) 15 (R 15)) 17 (R 17)) 19 (R 19)) RO LL Y ((-100002) : Int32)   ) (cwV 1 hts gX9_copy_X9_finding rfl rfl rfl (by decide +kernel) ⟨Nat.le_of_ble_eq_true rfl, Nat.le_of_ble_eq_true rfl⟩) hK hN hP hD hS hA rfl rfl rfl hl.1 rfl (Nat.le_of_ble_eq_true rfl) dX9_copy_59 ⟨Nat.le_of_ble_eq_true rfl, Nat.le_of_ble_eq_true rfl⟩ (fun r_206 u H locs hw hP hD hS => ?_)
            obtain ⟨w_207, rfl, rfl⟩ := hw
            have hP : va_P D vwCl (CT cy a J (va_up I 10 w_207) O (va_up (va_up (va_up (va_up R 13 (R 13)) 15 (R 15)) 17 (R 17)) 19 (R 19)) RO (LL ++ Y)) H := hP
            have hD : va_D A (CT cy a J (va_up I 10 w_207) O (va_up (va_up (va_up (va_up R 13 (R 13)) 15 (R 15)) 17 (R 17)) 19 (R 19)) RO (LL ++ Y)) := hD
            exact wret_i hx hb hr hlocks (J, (va_up I 10 w_207), O, (va_up (va_up (va_up (va_up R 13 (R 13)) 15 (R 15)) 17 (R 17)) 19 (R 19)), RO, LL, Y) ⟨w_207, (R 13), (R 15), (R 17), (R 19), ⟨(cp_no (V := Vs) (cw2 c_1 c_4 (Or.inl (eb0 (by rw [hj_5]; rfl) hSh.2.2.2 c_205))) (by decide)).1, (by rw [(cp_no (cw2 c_1 c_4 (Or.inl (eb0 (by rw [hj_5]; rfl) hSh.2.2.2 c_205))) (by decide)).2]; exact hSh)⟩, rfl⟩ hP hD hS dX9_copy_62
          · replace c_205 := bI_f c_205
            refine lv_aload hx hb dX9_copy_47 (lv_at hl 0 rfl) ?_
            refine kR_i (As := []) (rest := []) (q0 := 14) ⟨hx, hb, hml, hown, hts⟩ (x_X6_isMissing14 l D cy a _ J (va_up I 10 (I 10)) O (va_up (va_up (va_up (va_up R 13 (R 13)) 15 (R 15)) 17 (R 17)) 19 (R 19)) RO LL Y   ) (cwV 0 hts gX9_copy_X6_isMissing rfl rfl rfl (by decide +kernel) ⟨Nat.le_of_ble_eq_true rfl, Nat.le_of_ble_eq_true rfl⟩) hK hN hP hD rfl rfl rfl hl.1 rfl (Nat.le_of_ble_eq_true rfl) dX9_copy_49 ⟨Nat.le_of_ble_eq_true rfl, Nat.le_of_ble_eq_true rfl⟩ ?_
            refine lv_if_eq (tgt := 63) hx hb dX9_copy_52 (by decide) (fun c_208 => ?_) (fun c_208 => ?_)
            · replace c_208 := bI_f c_208
              refine lv_aload hx hb dX9_copy_63 (lv_at hl 1 rfl) ?_
              refine va_get (D := D) (ci := 5) (v := .int (I 577)) (C := RX6) (T := TX6) (N := 3) hx hb hts hi6 hown hK hP 18 rfl rfl 1 (by decide) hw3 (fun _ h9 => h9) rfl dX9_copy_65 ?_
              refine lv_aload hx hb dX9_copy_68 (lv_at hl 0 rfl) ?_
              refine va_get (D := D) (ci := 5) (v := .int (I 449)) (C := RX6) (T := TX6) (N := 3) hx hb hts hi6 hown hK hP 14 rfl rfl 1 (by decide) hw3 (fun _ h9 => h9) rfl dX9_copy_70 ?_
              refine lv_icmp_eq (tgt := 83) hx hb dX9_copy_73 (by decide) (fun c_209 => ?_) (fun c_209 => ?_)
              · refine lv_aload hx hb dX9_copy_83 (lv_at hl 1 rfl) ?_
                refine lv_iload_n hx hb dX9_copy_85 rfl (lv_at hl 4 rfl) ?_
                refine lv_iload hx hb dX9_copy_86 (lv_at hl 7 rfl) ?_
                refine kR_i (As := [.int x1, .int x4]) (rest := []) (q0 := 18) ⟨hx, hb, hml, hown, hts⟩ (x_X6_hasRange18 l D cy a _ J (va_up I 10 (I 10)) O (va_up (va_up (va_up (va_up R 13 (R 13)) 15 (R 15)) 17 (R 17)) 19 (R 19)) RO LL Y x1 x4  ) (cwV 2 hts gX9_copy_X6_hasRange rfl rfl rfl (by decide +kernel) ⟨Nat.le_of_ble_eq_true rfl, Nat.le_of_ble_eq_true rfl⟩) hK hN hP hD rfl rfl rfl hl.1 rfl (Nat.le_of_ble_eq_true rfl) dX9_copy_88 ⟨Nat.le_of_ble_eq_true rfl, Nat.le_of_ble_eq_true rfl⟩ ?_
                refine lv_if_eq (tgt := 106) hx hb dX9_copy_91 (by decide) (fun c_210 => ?_) (fun c_210 => ?_)
                · replace c_210 := bI_f c_210
                  refine lv_aload_n hx hb dX9_copy_106 rfl (lv_at hl 2 rfl) ?_
                  refine lv_ldc (v := (-100001)) hx hb hown hw0 dX9_copy_107 ?_
                  refine kM_i (As := [.int (-100001)]) (rest := []) (q0 := 0) ⟨hx, hb, hml, hown, hts⟩ (t_X9_finding l D cy a _ J (va_up I 10 (I 10)) O (va_up (va_up (va_up (va_up R 13 (R 13)) 15 (R 15)) 17 (R 17)) 19 (R 19)) RO LL Y ((-100001) : Int32)   ) (cwV 1 hts gX9_copy_X9_finding rfl rfl rfl (by decide +kernel) ⟨Nat.le_of_ble_eq_true rfl, Nat.le_of_ble_eq_true rfl⟩) hK hN hP hD hS hA rfl rfl rfl hl.1 rfl (Nat.le_of_ble_eq_true rfl) dX9_copy_109 ⟨Nat.le_of_ble_eq_true rfl, Nat.le_of_ble_eq_true rfl⟩ (fun r_211 u H locs hw hP hD hS => ?_)
                  obtain ⟨w_212, rfl, rfl⟩ := hw
                  have hP : va_P D vwCl (CT cy a J (va_up I 10 w_212) O (va_up (va_up (va_up (va_up R 13 (R 13)) 15 (R 15)) 17 (R 17)) 19 (R 19)) RO (LL ++ Y)) H := hP
                  have hD : va_D A (CT cy a J (va_up I 10 w_212) O (va_up (va_up (va_up (va_up R 13 (R 13)) 15 (R 15)) 17 (R 17)) 19 (R 19)) RO (LL ++ Y)) := hD
                  exact wret_i hx hb hr hlocks (J, (va_up I 10 w_212), O, (va_up (va_up (va_up (va_up R 13 (R 13)) 15 (R 15)) 17 (R 17)) 19 (R 19)), RO, LL, Y) ⟨w_212, (R 13), (R 15), (R 17), (R 19), ⟨(cp_no (V := Vs) (cw4 c_1 c_4 (nb0 (by rw [hj_5]; rfl) hSh.2.2.2 c_205) (nb0 (by rw [hj_189]; rfl) hSh.2.1 c_208) (by rw [bq (by rw [hj_5]; rfl) hSh.2.2.2, bq (by rw [hj_189]; rfl) hSh.2.1]; exact c_209) (ck_f1 (by rw [hj_5]; rfl) hSh.2.2.2 c_210)) (by decide)).1, (by rw [(cp_no (cw4 c_1 c_4 (nb0 (by rw [hj_5]; rfl) hSh.2.2.2 c_205) (nb0 (by rw [hj_189]; rfl) hSh.2.1 c_208) (by rw [bq (by rw [hj_5]; rfl) hSh.2.2.2, bq (by rw [hj_189]; rfl) hSh.2.1]; exact c_209) (ck_f1 (by rw [hj_5]; rfl) hSh.2.2.2 c_210)) (by decide)).2]; exact hSh)⟩, rfl⟩ hP hD hS dX9_copy_112
                · replace c_210 := bI_t c_210
                  refine lv_aload hx hb dX9_copy_94 (lv_at hl 0 rfl) ?_
                  refine lv_iload hx hb dX9_copy_96 (lv_at hl 6 rfl) ?_
                  refine lv_iload hx hb dX9_copy_98 (lv_at hl 7 rfl) ?_
                  refine kR_i (As := [.int x3, .int x4]) (rest := []) (q0 := 14) ⟨hx, hb, hml, hown, hts⟩ (x_X6_hasRange14 l D cy a _ J (va_up I 10 (I 10)) O (va_up (va_up (va_up (va_up R 13 (R 13)) 15 (R 15)) 17 (R 17)) 19 (R 19)) RO LL Y x3 x4  ) (cwV 2 hts gX9_copy_X6_hasRange rfl rfl rfl (by decide +kernel) ⟨Nat.le_of_ble_eq_true rfl, Nat.le_of_ble_eq_true rfl⟩) hK hN hP hD rfl rfl rfl hl.1 rfl (Nat.le_of_ble_eq_true rfl) dX9_copy_100 ⟨Nat.le_of_ble_eq_true rfl, Nat.le_of_ble_eq_true rfl⟩ ?_
                  refine lv_if_ne (tgt := 113) hx hb dX9_copy_103 (by decide) (fun c_213 => ?_) (fun c_213 => ?_)
                  · replace c_213 := bI_t c_213
                    refine lv_aload hx hb dX9_copy_113 (lv_at hl 1 rfl) ?_
                    refine va_get (D := D) (ci := 5) (v := .ref (a 19)) (C := RX6) (T := TX6) (N := 3) hx hb hts hi6 hown hK hP 18 rfl rfl 0 (by decide) hw4 (fun _ h9 => h9) rfl dX9_copy_115 ?_
                    refine lv_iload_n hx hb dX9_copy_118 rfl (lv_at hl 4 rfl) ?_
                    refine lv_aload hx hb dX9_copy_119 (lv_at hl 0 rfl) ?_
                    refine va_get (D := D) (ci := 5) (v := .ref (a 15)) (C := RX6) (T := TX6) (N := 3) hx hb hts hi6 hown hK hP 14 rfl rfl 0 (by decide) hw4 (fun _ h9 => h9) rfl dX9_copy_121 ?_
                    refine lv_iload hx hb dX9_copy_124 (lv_at hl 6 rfl) ?_
                    refine lv_iload hx hb dX9_copy_126 (lv_at hl 7 rfl) ?_
                    refine va_copyi hx hb (by rw [hml]; exact hl.1.symm) hown hw5 hw6 hw7 hw8 hK hP hD hS 19 15 0 0 rfl rfl rfl rfl rfl (rng_hr hSh.2.2.2 c_210).1 (rng_hr hSh.2.1 c_213).1 (rng_hr hSh.2.2.2 c_210).2.1 (rng_hr hSh.2.2.2 c_210).2.2 (rng_hr hSh.2.1 c_213).2.2 (fun _ _ => rfl) (Nat.le_of_ble_eq_true rfl) (Nat.le_of_ble_eq_true rfl) dX9_copy_128 (fun H locs hP hD hS => ?_)
                    have hP : va_P D vwCl (CT cy a J (va_up I 10 (I 10)) O (va_up (va_up (va_up (va_up R 13 (R 13)) 15 (va_cpy (R 19) (R 15) x1.toNatClampNeg x3.toNatClampNeg x4.toNatClampNeg)) 17 (R 17)) 19 (R 19)) RO (LL ++ Y)) H := hP
                    have hD : va_D A (CT cy a J (va_up I 10 (I 10)) O (va_up (va_up (va_up (va_up R 13 (R 13)) 15 (va_cpy (R 19) (R 15) x1.toNatClampNeg x3.toNatClampNeg x4.toNatClampNeg)) 17 (R 17)) 19 (R 19)) RO (LL ++ Y)) := hD
                    refine lv_iload hx hb dX9_copy_131 (lv_at hl 7 rfl) ?_
                    exact wret_i hx hb hr hlocks (J, (va_up I 10 (I 10)), O, (va_up (va_up (va_up (va_up R 13 (R 13)) 15 (va_cpy (R 19) (R 15) x1.toNatClampNeg x3.toNatClampNeg x4.toNatClampNeg)) 17 (R 17)) 19 (R 19)), RO, LL, Y) ⟨(I 10), (R 13), (va_cpy (R 19) (R 15) x1.toNatClampNeg x3.toNatClampNeg x4.toNatClampNeg), (R 17), (R 19), ⟨(cp_yes (V := Vs) (cw5 c_1 c_4 (nb0 (by rw [hj_5]; rfl) hSh.2.2.2 c_205) (nb0 (by rw [hj_189]; rfl) hSh.2.1 c_208) (by rw [bq (by rw [hj_5]; rfl) hSh.2.2.2, bq (by rw [hj_189]; rfl) hSh.2.1]; exact c_209) (ck_t (by rw [hj_5]; rfl) hSh.2.2.2 (by rw [hj_189]; rfl) hSh.2.1 c_210 c_213))).1, (by rw [(cp_yes (cw5 c_1 c_4 (nb0 (by rw [hj_5]; rfl) hSh.2.2.2 c_205) (nb0 (by rw [hj_189]; rfl) hSh.2.1 c_208) (by rw [bq (by rw [hj_5]; rfl) hSh.2.2.2, bq (by rw [hj_189]; rfl) hSh.2.1]; exact c_209) (ck_t (by rw [hj_5]; rfl) hSh.2.2.2 (by rw [hj_189]; rfl) hSh.2.1 c_210 c_213))).2]; exact RCs_v1 (by rw [hj_189]; rfl) hSh (ck_v (by rw [hj_5]; rfl) hSh.2.2.2 (by rw [hj_189]; rfl) hSh.2.1 c_210 c_213))⟩, rfl⟩ hP hD hS dX9_copy_133
                  · replace c_213 := bI_f c_213
                    refine lv_aload_n hx hb dX9_copy_106 rfl (lv_at hl 2 rfl) ?_
                    refine lv_ldc (v := (-100001)) hx hb hown hw0 dX9_copy_107 ?_
                    refine kM_i (As := [.int (-100001)]) (rest := []) (q0 := 0) ⟨hx, hb, hml, hown, hts⟩ (t_X9_finding l D cy a _ J (va_up I 10 (I 10)) O (va_up (va_up (va_up (va_up R 13 (R 13)) 15 (R 15)) 17 (R 17)) 19 (R 19)) RO LL Y ((-100001) : Int32)   ) (cwV 1 hts gX9_copy_X9_finding rfl rfl rfl (by decide +kernel) ⟨Nat.le_of_ble_eq_true rfl, Nat.le_of_ble_eq_true rfl⟩) hK hN hP hD hS hA rfl rfl rfl hl.1 rfl (Nat.le_of_ble_eq_true rfl) dX9_copy_109 ⟨Nat.le_of_ble_eq_true rfl, Nat.le_of_ble_eq_true rfl⟩ (fun r_214 u H locs hw hP hD hS => ?_)
                    obtain ⟨w_215, rfl, rfl⟩ := hw
                    have hP : va_P D vwCl (CT cy a J (va_up I 10 w_215) O (va_up (va_up (va_up (va_up R 13 (R 13)) 15 (R 15)) 17 (R 17)) 19 (R 19)) RO (LL ++ Y)) H := hP
                    have hD : va_D A (CT cy a J (va_up I 10 w_215) O (va_up (va_up (va_up (va_up R 13 (R 13)) 15 (R 15)) 17 (R 17)) 19 (R 19)) RO (LL ++ Y)) := hD
                    exact wret_i hx hb hr hlocks (J, (va_up I 10 w_215), O, (va_up (va_up (va_up (va_up R 13 (R 13)) 15 (R 15)) 17 (R 17)) 19 (R 19)), RO, LL, Y) ⟨w_215, (R 13), (R 15), (R 17), (R 19), ⟨(cp_no (V := Vs) (cw4 c_1 c_4 (nb0 (by rw [hj_5]; rfl) hSh.2.2.2 c_205) (nb0 (by rw [hj_189]; rfl) hSh.2.1 c_208) (by rw [bq (by rw [hj_5]; rfl) hSh.2.2.2, bq (by rw [hj_189]; rfl) hSh.2.1]; exact c_209) (ck_f2 (by rw [hj_189]; rfl) hSh.2.1 c_213)) (by decide)).1, (by rw [(cp_no (cw4 c_1 c_4 (nb0 (by rw [hj_5]; rfl) hSh.2.2.2 c_205) (nb0 (by rw [hj_189]; rfl) hSh.2.1 c_208) (by rw [bq (by rw [hj_5]; rfl) hSh.2.2.2, bq (by rw [hj_189]; rfl) hSh.2.1]; exact c_209) (ck_f2 (by rw [hj_189]; rfl) hSh.2.1 c_213)) (by decide)).2]; exact hSh)⟩, rfl⟩ hP hD hS dX9_copy_112
              · refine lv_aload_n hx hb dX9_copy_76 rfl (lv_at hl 2 rfl) ?_
                refine lv_ldc (v := (-100004)) hx hb hown hw9 dX9_copy_77 ?_
                refine kM_i (As := [.int (-100004)]) (rest := []) (q0 := 0) ⟨hx, hb, hml, hown, hts⟩ (t_X9_finding l D cy a _ J (va_up I 10 (I 10)) O (va_up (va_up (va_up (va_up R 13 (R 13)) 15 (R 15)) 17 (R 17)) 19 (R 19)) RO LL Y ((-100004) : Int32)   ) (cwV 1 hts gX9_copy_X9_finding rfl rfl rfl (by decide +kernel) ⟨Nat.le_of_ble_eq_true rfl, Nat.le_of_ble_eq_true rfl⟩) hK hN hP hD hS hA rfl rfl rfl hl.1 rfl (Nat.le_of_ble_eq_true rfl) dX9_copy_79 ⟨Nat.le_of_ble_eq_true rfl, Nat.le_of_ble_eq_true rfl⟩ (fun r_216 u H locs hw hP hD hS => ?_)
                obtain ⟨w_217, rfl, rfl⟩ := hw
                have hP : va_P D vwCl (CT cy a J (va_up I 10 w_217) O (va_up (va_up (va_up (va_up R 13 (R 13)) 15 (R 15)) 17 (R 17)) 19 (R 19)) RO (LL ++ Y)) H := hP
                have hD : va_D A (CT cy a J (va_up I 10 w_217) O (va_up (va_up (va_up (va_up R 13 (R 13)) 15 (R 15)) 17 (R 17)) 19 (R 19)) RO (LL ++ Y)) := hD
                exact wret_i hx hb hr hlocks (J, (va_up I 10 w_217), O, (va_up (va_up (va_up (va_up R 13 (R 13)) 15 (R 15)) 17 (R 17)) 19 (R 19)), RO, LL, Y) ⟨w_217, (R 13), (R 15), (R 17), (R 19), ⟨(cp_no (V := Vs) (cw3 c_1 c_4 (nb0 (by rw [hj_5]; rfl) hSh.2.2.2 c_205) (nb0 (by rw [hj_189]; rfl) hSh.2.1 c_208) (by rw [bq (by rw [hj_5]; rfl) hSh.2.2.2, bq (by rw [hj_189]; rfl) hSh.2.1]; exact c_209)) (by decide)).1, (by rw [(cp_no (cw3 c_1 c_4 (nb0 (by rw [hj_5]; rfl) hSh.2.2.2 c_205) (nb0 (by rw [hj_189]; rfl) hSh.2.1 c_208) (by rw [bq (by rw [hj_5]; rfl) hSh.2.2.2, bq (by rw [hj_189]; rfl) hSh.2.1]; exact c_209)) (by decide)).2]; exact hSh)⟩, rfl⟩ hP hD hS dX9_copy_82
            · replace c_208 := bI_t c_208
              refine lv_aload_n hx hb dX9_copy_55 rfl (lv_at hl 2 rfl) ?_
              refine lv_ldcw (v := (-100002)) hx hb hown hw2 dX9_copy_56 ?_
              refine kM_i (As := [.int (-100002)]) (rest := []) (q0 := 0) ⟨hx, hb, hml, hown, hts⟩ (t_X9_finding l D cy a _ J (va_up I 10 (I 10)) O (va_up (va_up (va_up (va_up R 13 (R 13)) 15 (R 15)) 17 (R 17)) 19 (R 19)) RO LL Y ((-100002) : Int32)   ) (cwV 1 hts gX9_copy_X9_finding rfl rfl rfl (by decide +kernel) ⟨Nat.le_of_ble_eq_true rfl, Nat.le_of_ble_eq_true rfl⟩) hK hN hP hD hS hA rfl rfl rfl hl.1 rfl (Nat.le_of_ble_eq_true rfl) dX9_copy_59 ⟨Nat.le_of_ble_eq_true rfl, Nat.le_of_ble_eq_true rfl⟩ (fun r_218 u H locs hw hP hD hS => ?_)
              obtain ⟨w_219, rfl, rfl⟩ := hw
              have hP : va_P D vwCl (CT cy a J (va_up I 10 w_219) O (va_up (va_up (va_up (va_up R 13 (R 13)) 15 (R 15)) 17 (R 17)) 19 (R 19)) RO (LL ++ Y)) H := hP
              have hD : va_D A (CT cy a J (va_up I 10 w_219) O (va_up (va_up (va_up (va_up R 13 (R 13)) 15 (R 15)) 17 (R 17)) 19 (R 19)) RO (LL ++ Y)) := hD
              exact wret_i hx hb hr hlocks (J, (va_up I 10 w_219), O, (va_up (va_up (va_up (va_up R 13 (R 13)) 15 (R 15)) 17 (R 17)) 19 (R 19)), RO, LL, Y) ⟨w_219, (R 13), (R 15), (R 17), (R 19), ⟨(cp_no (V := Vs) (cw2 c_1 c_4 (Or.inr (eb0 (by rw [hj_189]; rfl) hSh.2.1 c_208))) (by decide)).1, (by rw [(cp_no (cw2 c_1 c_4 (Or.inr (eb0 (by rw [hj_189]; rfl) hSh.2.1 c_208))) (by decide)).2]; exact hSh)⟩, rfl⟩ hP hD hS dX9_copy_62
        · refine wtop_v (y := .ref (a 16)) (by rw [hj_189]; exact congrArg va_rf hRO2) ?_
          refine lv_astore (lv' := [(7, .ref (a 16)), (6, .ref (a 18)), (0, .ref (a 0)), (1, .int x0), (2, .int x1), (3, .int x2), (4, .int x3), (5, .int x4)]) hx hb dX9_copy_37 hl (by decide) rfl (fun ls hl => ?_)
          refine lv_aload hx hb dX9_copy_39 (lv_at hl 1 rfl) ?_
          refine kR_i (As := []) (rest := []) (q0 := 18) ⟨hx, hb, hml, hown, hts⟩ (x_X6_isMissing18 l D cy a _ J (va_up I 10 (I 10)) O (va_up (va_up (va_up (va_up R 13 (R 13)) 15 (R 15)) 17 (R 17)) 19 (R 19)) RO LL Y   ) (cwV 0 hts gX9_copy_X6_isMissing rfl rfl rfl (by decide +kernel) ⟨Nat.le_of_ble_eq_true rfl, Nat.le_of_ble_eq_true rfl⟩) hK hN hP hD rfl rfl rfl hl.1 rfl (Nat.le_of_ble_eq_true rfl) dX9_copy_41 ⟨Nat.le_of_ble_eq_true rfl, Nat.le_of_ble_eq_true rfl⟩ ?_
          refine lv_if_ne (tgt := 55) hx hb dX9_copy_44 (by decide) (fun c_220 => ?_) (fun c_220 => ?_)
          · replace c_220 := bI_t c_220
            refine lv_aload_n hx hb dX9_copy_55 rfl (lv_at hl 2 rfl) ?_
            refine lv_ldcw (v := (-100002)) hx hb hown hw2 dX9_copy_56 ?_
            refine kM_i (As := [.int (-100002)]) (rest := []) (q0 := 0) ⟨hx, hb, hml, hown, hts⟩ (t_X9_finding l D cy a _ J (va_up I 10 (I 10)) O (va_up (va_up (va_up (va_up R 13 (R 13)) 15 (R 15)) 17 (R 17)) 19 (R 19)) RO LL Y ((-100002) : Int32)   ) (cwV 1 hts gX9_copy_X9_finding rfl rfl rfl (by decide +kernel) ⟨Nat.le_of_ble_eq_true rfl, Nat.le_of_ble_eq_true rfl⟩) hK hN hP hD hS hA rfl rfl rfl hl.1 rfl (Nat.le_of_ble_eq_true rfl) dX9_copy_59 ⟨Nat.le_of_ble_eq_true rfl, Nat.le_of_ble_eq_true rfl⟩ (fun r_221 u H locs hw hP hD hS => ?_)
            obtain ⟨w_222, rfl, rfl⟩ := hw
            have hP : va_P D vwCl (CT cy a J (va_up I 10 w_222) O (va_up (va_up (va_up (va_up R 13 (R 13)) 15 (R 15)) 17 (R 17)) 19 (R 19)) RO (LL ++ Y)) H := hP
            have hD : va_D A (CT cy a J (va_up I 10 w_222) O (va_up (va_up (va_up (va_up R 13 (R 13)) 15 (R 15)) 17 (R 17)) 19 (R 19)) RO (LL ++ Y)) := hD
            exact wret_i hx hb hr hlocks (J, (va_up I 10 w_222), O, (va_up (va_up (va_up (va_up R 13 (R 13)) 15 (R 15)) 17 (R 17)) 19 (R 19)), RO, LL, Y) ⟨w_222, (R 13), (R 15), (R 17), (R 19), ⟨(cp_no (V := Vs) (cw2 c_1 c_4 (Or.inl (eb0 (by rw [hj_5]; rfl) hSh.2.2.2 c_220))) (by decide)).1, (by rw [(cp_no (cw2 c_1 c_4 (Or.inl (eb0 (by rw [hj_5]; rfl) hSh.2.2.2 c_220))) (by decide)).2]; exact hSh)⟩, rfl⟩ hP hD hS dX9_copy_62
          · replace c_220 := bI_f c_220
            refine lv_aload hx hb dX9_copy_47 (lv_at hl 0 rfl) ?_
            refine kR_i (As := []) (rest := []) (q0 := 16) ⟨hx, hb, hml, hown, hts⟩ (x_X6_isMissing16 l D cy a _ J (va_up I 10 (I 10)) O (va_up (va_up (va_up (va_up R 13 (R 13)) 15 (R 15)) 17 (R 17)) 19 (R 19)) RO LL Y   ) (cwV 0 hts gX9_copy_X6_isMissing rfl rfl rfl (by decide +kernel) ⟨Nat.le_of_ble_eq_true rfl, Nat.le_of_ble_eq_true rfl⟩) hK hN hP hD rfl rfl rfl hl.1 rfl (Nat.le_of_ble_eq_true rfl) dX9_copy_49 ⟨Nat.le_of_ble_eq_true rfl, Nat.le_of_ble_eq_true rfl⟩ ?_
            refine lv_if_eq (tgt := 63) hx hb dX9_copy_52 (by decide) (fun c_223 => ?_) (fun c_223 => ?_)
            · replace c_223 := bI_f c_223
              refine lv_aload hx hb dX9_copy_63 (lv_at hl 1 rfl) ?_
              refine va_get (D := D) (ci := 5) (v := .int (I 577)) (C := RX6) (T := TX6) (N := 3) hx hb hts hi6 hown hK hP 18 rfl rfl 1 (by decide) hw3 (fun _ h9 => h9) rfl dX9_copy_65 ?_
              refine lv_aload hx hb dX9_copy_68 (lv_at hl 0 rfl) ?_
              refine va_get (D := D) (ci := 5) (v := .int (I 513)) (C := RX6) (T := TX6) (N := 3) hx hb hts hi6 hown hK hP 16 rfl rfl 1 (by decide) hw3 (fun _ h9 => h9) rfl dX9_copy_70 ?_
              refine lv_icmp_eq (tgt := 83) hx hb dX9_copy_73 (by decide) (fun c_224 => ?_) (fun c_224 => ?_)
              · refine lv_aload hx hb dX9_copy_83 (lv_at hl 1 rfl) ?_
                refine lv_iload_n hx hb dX9_copy_85 rfl (lv_at hl 4 rfl) ?_
                refine lv_iload hx hb dX9_copy_86 (lv_at hl 7 rfl) ?_
                refine kR_i (As := [.int x1, .int x4]) (rest := []) (q0 := 18) ⟨hx, hb, hml, hown, hts⟩ (x_X6_hasRange18 l D cy a _ J (va_up I 10 (I 10)) O (va_up (va_up (va_up (va_up R 13 (R 13)) 15 (R 15)) 17 (R 17)) 19 (R 19)) RO LL Y x1 x4  ) (cwV 2 hts gX9_copy_X6_hasRange rfl rfl rfl (by decide +kernel) ⟨Nat.le_of_ble_eq_true rfl, Nat.le_of_ble_eq_true rfl⟩) hK hN hP hD rfl rfl rfl hl.1 rfl (Nat.le_of_ble_eq_true rfl) dX9_copy_88 ⟨Nat.le_of_ble_eq_true rfl, Nat.le_of_ble_eq_true rfl⟩ ?_
                refine lv_if_eq (tgt := 106) hx hb dX9_copy_91 (by decide) (fun c_225 => ?_) (fun c_225 => ?_)
                · replace c_225 := bI_f c_225
                  refine lv_aload_n hx hb dX9_copy_106 rfl (lv_at hl 2 rfl) ?_
                  refine lv_ldc (v := (-100001)) hx hb hown hw0 dX9_copy_107 ?_
                  refine kM_i (As := [.int (-100001)]) (rest := []) (q0 := 0) ⟨hx, hb, hml, hown, hts⟩ (t_X9_finding l D cy a _ J (va_up I 10 (I 10)) O (va_up (va_up (va_up (va_up R 13 (R 13)) 15 (R 15)) 17 (R 17)) 19 (R 19)) RO LL Y ((-100001) : Int32)   ) (cwV 1 hts gX9_copy_X9_finding rfl rfl rfl (by decide +kernel) ⟨Nat.le_of_ble_eq_true rfl, Nat.le_of_ble_eq_true rfl⟩) hK hN hP hD hS hA rfl rfl rfl hl.1 rfl (Nat.le_of_ble_eq_true rfl) dX9_copy_109 ⟨Nat.le_of_ble_eq_true rfl, Nat.le_of_ble_eq_true rfl⟩ (fun r_226 u H locs hw hP hD hS => ?_)
                  obtain ⟨w_227, rfl, rfl⟩ := hw
                  have hP : va_P D vwCl (CT cy a J (va_up I 10 w_227) O (va_up (va_up (va_up (va_up R 13 (R 13)) 15 (R 15)) 17 (R 17)) 19 (R 19)) RO (LL ++ Y)) H := hP
                  have hD : va_D A (CT cy a J (va_up I 10 w_227) O (va_up (va_up (va_up (va_up R 13 (R 13)) 15 (R 15)) 17 (R 17)) 19 (R 19)) RO (LL ++ Y)) := hD
                  exact wret_i hx hb hr hlocks (J, (va_up I 10 w_227), O, (va_up (va_up (va_up (va_up R 13 (R 13)) 15 (R 15)) 17 (R 17)) 19 (R 19)), RO, LL, Y) ⟨w_227, (R 13), (R 15), (R 17), (R 19), ⟨(cp_no (V := Vs) (cw4 c_1 c_4 (nb0 (by rw [hj_5]; rfl) hSh.2.2.2 c_220) (nb0 (by rw [hj_189]; rfl) hSh.2.2.1 c_223) (by rw [bq (by rw [hj_5]; rfl) hSh.2.2.2, bq (by rw [hj_189]; rfl) hSh.2.2.1]; exact c_224) (ck_f1 (by rw [hj_5]; rfl) hSh.2.2.2 c_225)) (by decide)).1, (by rw [(cp_no (cw4 c_1 c_4 (nb0 (by rw [hj_5]; rfl) hSh.2.2.2 c_220) (nb0 (by rw [hj_189]; rfl) hSh.2.2.1 c_223) (by rw [bq (by rw [hj_5]; rfl) hSh.2.2.2, bq (by rw [hj_189]; rfl) hSh.2.2.1]; exact c_224) (ck_f1 (by rw [hj_5]; rfl) hSh.2.2.2 c_225)) (by decide)).2]; exact hSh)⟩, rfl⟩ hP hD hS dX9_copy_112
                · replace c_225 := bI_t c_225
                  refine lv_aload hx hb dX9_copy_94 (lv_at hl 0 rfl) ?_
                  refine lv_iload hx hb dX9_copy_96 (lv_at hl 6 rfl) ?_
                  refine lv_iload hx hb dX9_copy_98 (lv_at hl 7 rfl) ?_
                  refine kR_i (As := [.int x3, .int x4]) (rest := []) (q0 := 16) ⟨hx, hb, hml, hown, hts⟩ (x_X6_hasRange16 l D cy a _ J (va_up I 10 (I 10)) O (va_up (va_up (va_up (va_up R 13 (R 13)) 15 (R 15)) 17 (R 17)) 19 (R 19)) RO LL Y x3 x4  ) (cwV 2 hts gX9_copy_X6_hasRange rfl rfl rfl (by decide +kernel) ⟨Nat.le_of_ble_eq_true rfl, Nat.le_of_ble_eq_true rfl⟩) hK hN hP hD rfl rfl rfl hl.1 rfl (Nat.le_of_ble_eq_true rfl) dX9_copy_100 ⟨Nat.le_of_ble_eq_true rfl, Nat.le_of_ble_eq_true rfl⟩ ?_
                  refine lv_if_ne (tgt := 113) hx hb dX9_copy_103 (by decide) (fun c_228 => ?_) (fun c_228 => ?_)
                  · replace c_228 := bI_t c_228
                    refine lv_aload hx hb dX9_copy_113 (lv_at hl 1 rfl) ?_
                    refine va_get (D := D) (ci := 5) (v := .ref (a 19)) (C := RX6) (T := TX6) (N := 3) hx hb hts hi6 hown hK hP 18 rfl rfl 0 (by decide) hw4 (fun _ h9 => h9) rfl dX9_copy_115 ?_
                    refine lv_iload_n hx hb dX9_copy_118 rfl (lv_at hl 4 rfl) ?_
                    refine lv_aload hx hb dX9_copy_119 (lv_at hl 0 rfl) ?_
                    refine va_get (D := D) (ci := 5) (v := .ref (a 17)) (C := RX6) (T := TX6) (N := 3) hx hb hts hi6 hown hK hP 16 rfl rfl 0 (by decide) hw4 (fun _ h9 => h9) rfl dX9_copy_121 ?_
                    refine lv_iload hx hb dX9_copy_124 (lv_at hl 6 rfl) ?_
                    refine lv_iload hx hb dX9_copy_126 (lv_at hl 7 rfl) ?_
                    refine va_copyi hx hb (by rw [hml]; exact hl.1.symm) hown hw5 hw6 hw7 hw8 hK hP hD hS 19 17 0 0 rfl rfl rfl rfl rfl (rng_hr hSh.2.2.2 c_225).1 (rng_hr hSh.2.2.1 c_228).1 (rng_hr hSh.2.2.2 c_225).2.1 (rng_hr hSh.2.2.2 c_225).2.2 (rng_hr hSh.2.2.1 c_228).2.2 (fun _ _ => rfl) (Nat.le_of_ble_eq_true rfl) (Nat.le_of_ble_eq_true rfl) dX9_copy_128 (fun H locs hP hD hS => ?_)
                    have hP : va_P D vwCl (CT cy a J (va_up I 10 (I 10)) O (va_up (va_up (va_up (va_up R 13 (R 13)) 15 (R 15)) 17 (va_cpy (R 19) (R 17) x1.toNatClampNeg x3.toNatClampNeg x4.toNatClampNeg)) 19 (R 19)) RO (LL ++ Y)) H := hP
                    have hD : va_D A (CT cy a J (va_up I 10 (I 10)) O (va_up (va_up (va_up (va_up R 13 (R 13)) 15 (R 15)) 17 (va_cpy (R 19) (R 17) x1.toNatClampNeg x3.toNatClampNeg x4.toNatClampNeg)) 19 (R 19)) RO (LL ++ Y)) := hD
                    refine lv_iload hx hb dX9_copy_131 (lv_at hl 7 rfl) ?_
                    exact wret_i hx hb hr hlocks (J, (va_up I 10 (I 10)), O, (va_up (va_up (va_up (va_up R 13 (R 13)) 15 (R 15)) 17 (va_cpy (R 19) (R 17) x1.toNatClampNeg x3.toNatClampNeg x4.toNatClampNeg)) 19 (R 19)), RO, LL, Y) ⟨(I 10), (R 13), (R 15), (va_cpy (R 19) (R 17) x1.toNatClampNeg x3.toNatClampNeg x4.toNatClampNeg), (R 19), ⟨(cp_yes (V := Vs) (cw5 c_1 c_4 (nb0 (by rw [hj_5]; rfl) hSh.2.2.2 c_220) (nb0 (by rw [hj_189]; rfl) hSh.2.2.1 c_223) (by rw [bq (by rw [hj_5]; rfl) hSh.2.2.2, bq (by rw [hj_189]; rfl) hSh.2.2.1]; exact c_224) (ck_t (by rw [hj_5]; rfl) hSh.2.2.2 (by rw [hj_189]; rfl) hSh.2.2.1 c_225 c_228))).1, (by rw [(cp_yes (cw5 c_1 c_4 (nb0 (by rw [hj_5]; rfl) hSh.2.2.2 c_220) (nb0 (by rw [hj_189]; rfl) hSh.2.2.1 c_223) (by rw [bq (by rw [hj_5]; rfl) hSh.2.2.2, bq (by rw [hj_189]; rfl) hSh.2.2.1]; exact c_224) (ck_t (by rw [hj_5]; rfl) hSh.2.2.2 (by rw [hj_189]; rfl) hSh.2.2.1 c_225 c_228))).2]; exact RCs_v2 (by rw [hj_189]; rfl) hSh (ck_v (by rw [hj_5]; rfl) hSh.2.2.2 (by rw [hj_189]; rfl) hSh.2.2.1 c_225 c_228))⟩, rfl⟩ hP hD hS dX9_copy_133
                  · replace c_228 := bI_f c_228
                    refine lv_aload_n hx hb dX9_copy_106 rfl (lv_at hl 2 rfl) ?_
                    refine lv_ldc (v := (-100001)) hx hb hown hw0 dX9_copy_107 ?_
                    refine kM_i (As := [.int (-100001)]) (rest := []) (q0 := 0) ⟨hx, hb, hml, hown, hts⟩ (t_X9_finding l D cy a _ J (va_up I 10 (I 10)) O (va_up (va_up (va_up (va_up R 13 (R 13)) 15 (R 15)) 17 (R 17)) 19 (R 19)) RO LL Y ((-100001) : Int32)   ) (cwV 1 hts gX9_copy_X9_finding rfl rfl rfl (by decide +kernel) ⟨Nat.le_of_ble_eq_true rfl, Nat.le_of_ble_eq_true rfl⟩) hK hN hP hD hS hA rfl rfl rfl hl.1 rfl (Nat.le_of_ble_eq_true rfl) dX9_copy_109 ⟨Nat.le_of_ble_eq_true rfl, Nat.le_of_ble_eq_true rfl⟩ (fun r_229 u H locs hw hP hD hS => ?_)
                    obtain ⟨w_230, rfl, rfl⟩ := hw
                    have hP : va_P D vwCl (CT cy a J (va_up I 10 w_230) O (va_up (va_up (va_up (va_up R 13 (R 13)) 15 (R 15)) 17 (R 17)) 19 (R 19)) RO (LL ++ Y)) H := hP
                    have hD : va_D A (CT cy a J (va_up I 10 w_230) O (va_up (va_up (va_up (va_up R 13 (R 13)) 15 (R 15)) 17 (R 17)) 19 (R 19)) RO (LL ++ Y)) := hD
                    exact wret_i hx hb hr hlocks (J, (va_up I 10 w_230), O, (va_up (va_up (va_up (va_up R 13 (R 13)) 15 (R 15)) 17 (R 17)) 19 (R 19)), RO, LL, Y) ⟨w_230, (R 13), (R 15), (R 17), (R 19), ⟨(cp_no (V := Vs) (cw4 c_1 c_4 (nb0 (by rw [hj_5]; rfl) hSh.2.2.2 c_220) (nb0 (by rw [hj_189]; rfl) hSh.2.2.1 c_223) (by rw [bq (by rw [hj_5]; rfl) hSh.2.2.2, bq (by rw [hj_189]; rfl) hSh.2.2.1]; exact c_224) (ck_f2 (by rw [hj_189]; rfl) hSh.2.2.1 c_228)) (by decide)).1, (by rw [(cp_no (cw4 c_1 c_4 (nb0 (by rw [hj_5]; rfl) hSh.2.2.2 c_220) (nb0 (by rw [hj_189]; rfl) hSh.2.2.1 c_223) (by rw [bq (by rw [hj_5]; rfl) hSh.2.2.2, bq (by rw [hj_189]; rfl) hSh.2.2.1]; exact c_224) (ck_f2 (by rw [hj_189]; rfl) hSh.2.2.1 c_228)) (by decide)).2]; exact hSh)⟩, rfl⟩ hP hD hS dX9_copy_112
              · refine lv_aload_n hx hb dX9_copy_76 rfl (lv_at hl 2 rfl) ?_
                refine lv_ldc (v := (-100004)) hx hb hown hw9 dX9_copy_77 ?_
                refine kM_i (As := [.int (-100004)]) (rest := []) (q0 := 0) ⟨hx, hb, hml, hown, hts⟩ (t_X9_finding l D cy a _ J (va_up I 10 (I 10)) O (va_up (va_up (va_up (va_up R 13 (R 13)) 15 (R 15)) 17 (R 17)) 19 (R 19)) RO LL Y ((-100004) : Int32)   ) (cwV 1 hts gX9_copy_X9_finding rfl rfl rfl (by decide +kernel) ⟨Nat.le_of_ble_eq_true rfl, Nat.le_of_ble_eq_true rfl⟩) hK hN hP hD hS hA rfl rfl rfl hl.1 rfl (Nat.le_of_ble_eq_true rfl) dX9_copy_79 ⟨Nat.le_of_ble_eq_true rfl, Nat.le_of_ble_eq_true rfl⟩ (fun r_231 u H locs hw hP hD hS => ?_)
                obtain ⟨w_232, rfl, rfl⟩ := hw
                have hP : va_P D vwCl (CT cy a J (va_up I 10 w_232) O (va_up (va_up (va_up (va_up R 13 (R 13)) 15 (R 15)) 17 (R 17)) 19 (R 19)) RO (LL ++ Y)) H := hP
                have hD : va_D A (CT cy a J (va_up I 10 w_232) O (va_up (va_up (va_up (va_up R 13 (R 13)) 15 (R 15)) 17 (R 17)) 19 (R 19)) RO (LL ++ Y)) := hD
                exact wret_i hx hb hr hlocks (J, (va_up I 10 w_232), O, (va_up (va_up (va_up (va_up R 13 (R 13)) 15 (R 15)) 17 (R 17)) 19 (R 19)), RO, LL, Y) ⟨w_232, (R 13), (R 15), (R 17), (R 19), ⟨(cp_no (V := Vs) (cw3 c_1 c_4 (nb0 (by rw [hj_5]; rfl) hSh.2.2.2 c_220) (nb0 (by rw [hj_189]; rfl) hSh.2.2.1 c_223) (by rw [bq (by rw [hj_5]; rfl) hSh.2.2.2, bq (by rw [hj_189]; rfl) hSh.2.2.1]; exact c_224)) (by decide)).1, (by rw [(cp_no (cw3 c_1 c_4 (nb0 (by rw [hj_5]; rfl) hSh.2.2.2 c_220) (nb0 (by rw [hj_189]; rfl) hSh.2.2.1 c_223) (by rw [bq (by rw [hj_5]; rfl) hSh.2.2.2, bq (by rw [hj_189]; rfl) hSh.2.2.1]; exact c_224)) (by decide)).2]; exact hSh)⟩, rfl⟩ hP hD hS dX9_copy_82
            · replace c_223 := bI_t c_223
              refine lv_aload_n hx hb dX9_copy_55 rfl (lv_at hl 2 rfl) ?_
              refine lv_ldcw (v := (-100002)) hx hb hown hw2 dX9_copy_56 ?_
              refine kM_i (As := [.int (-100002)]) (rest := []) (q0 := 0) ⟨hx, hb, hml, hown, hts⟩ (t_X9_finding l D cy a _ J (va_up I 10 (I 10)) O (va_up (va_up (va_up (va_up R 13 (R 13)) 15 (R 15)) 17 (R 17)) 19 (R 19)) RO LL Y ((-100002) : Int32)   ) (cwV 1 hts gX9_copy_X9_finding rfl rfl rfl (by decide +kernel) ⟨Nat.le_of_ble_eq_true rfl, Nat.le_of_ble_eq_true rfl⟩) hK hN hP hD hS hA rfl rfl rfl hl.1 rfl (Nat.le_of_ble_eq_true rfl) dX9_copy_59 ⟨Nat.le_of_ble_eq_true rfl, Nat.le_of_ble_eq_true rfl⟩ (fun r_233 u H locs hw hP hD hS => ?_)
              obtain ⟨w_234, rfl, rfl⟩ := hw
              have hP : va_P D vwCl (CT cy a J (va_up I 10 w_234) O (va_up (va_up (va_up (va_up R 13 (R 13)) 15 (R 15)) 17 (R 17)) 19 (R 19)) RO (LL ++ Y)) H := hP
              have hD : va_D A (CT cy a J (va_up I 10 w_234) O (va_up (va_up (va_up (va_up R 13 (R 13)) 15 (R 15)) 17 (R 17)) 19 (R 19)) RO (LL ++ Y)) := hD
              exact wret_i hx hb hr hlocks (J, (va_up I 10 w_234), O, (va_up (va_up (va_up (va_up R 13 (R 13)) 15 (R 15)) 17 (R 17)) 19 (R 19)), RO, LL, Y) ⟨w_234, (R 13), (R 15), (R 17), (R 19), ⟨(cp_no (V := Vs) (cw2 c_1 c_4 (Or.inr (eb0 (by rw [hj_189]; rfl) hSh.2.2.1 c_223))) (by decide)).1, (by rw [(cp_no (cw2 c_1 c_4 (Or.inr (eb0 (by rw [hj_189]; rfl) hSh.2.2.1 c_223))) (by decide)).2]; exact hSh)⟩, rfl⟩ hP hD hS dX9_copy_62
        · refine wtop_v (y := .ref (a 18)) (by rw [hj_189]; exact congrArg va_rf hRO3) ?_
          refine lv_astore (lv' := [(7, .ref (a 18)), (6, .ref (a 18)), (0, .ref (a 0)), (1, .int x0), (2, .int x1), (3, .int x2), (4, .int x3), (5, .int x4)]) hx hb dX9_copy_37 hl (by decide) rfl (fun ls hl => ?_)
          refine lv_aload hx hb dX9_copy_39 (lv_at hl 1 rfl) ?_
          refine kR_i (As := []) (rest := []) (q0 := 18) ⟨hx, hb, hml, hown, hts⟩ (x_X6_isMissing18 l D cy a _ J (va_up I 10 (I 10)) O (va_up (va_up (va_up (va_up R 13 (R 13)) 15 (R 15)) 17 (R 17)) 19 (R 19)) RO LL Y   ) (cwV 0 hts gX9_copy_X6_isMissing rfl rfl rfl (by decide +kernel) ⟨Nat.le_of_ble_eq_true rfl, Nat.le_of_ble_eq_true rfl⟩) hK hN hP hD rfl rfl rfl hl.1 rfl (Nat.le_of_ble_eq_true rfl) dX9_copy_41 ⟨Nat.le_of_ble_eq_true rfl, Nat.le_of_ble_eq_true rfl⟩ ?_
          refine lv_if_ne (tgt := 55) hx hb dX9_copy_44 (by decide) (fun c_235 => ?_) (fun c_235 => ?_)
          · replace c_235 := bI_t c_235
            refine lv_aload_n hx hb dX9_copy_55 rfl (lv_at hl 2 rfl) ?_
            refine lv_ldcw (v := (-100002)) hx hb hown hw2 dX9_copy_56 ?_
            refine kM_i (As := [.int (-100002)]) (rest := []) (q0 := 0) ⟨hx, hb, hml, hown, hts⟩ (t_X9_finding l D cy a _ J (va_up I 10 (I 10)) O (va_up (va_up (va_up (va_up R 13 (R 13)) 15 (R 15)) 17 (R 17)) 19 (R 19)) RO LL Y ((-100002) : Int32)   ) (cwV 1 hts gX9_copy_X9_finding rfl rfl rfl (by decide +kernel) ⟨Nat.le_of_ble_eq_true rfl, Nat.le_of_ble_eq_true rfl⟩) hK hN hP hD hS hA rfl rfl rfl hl.1 rfl (Nat.le_of_ble_eq_true rfl) dX9_copy_59 ⟨Nat.le_of_ble_eq_true rfl, Nat.le_of_ble_eq_true rfl⟩ (fun r_236 u H locs hw hP hD hS => ?_)
            obtain ⟨w_237, rfl, rfl⟩ := hw
            have hP : va_P D vwCl (CT cy a J (va_up I 10 w_237) O (va_up (va_up (va_up (va_up R 13 (R 13)) 15 (R 15)) 17 (R 17)) 19 (R 19)) RO (LL ++ Y)) H := hP
            have hD : va_D A (CT cy a J (va_up I 10 w_237) O (va_up (va_up (va_up (va_up R 13 (R 13)) 15 (R 15)) 17 (R 17)) 19 (R 19)) RO (LL ++ Y)) := hD
            exact wret_i hx hb hr hlocks (J, (va_up I 10 w_237), O, (va_up (va_up (va_up (va_up R 13 (R 13)) 15 (R 15)) 17 (R 17)) 19 (R 19)), RO, LL, Y) ⟨w_237, (R 13), (R 15), (R 17), (R 19), ⟨(cp_no (V := Vs) (cw2 c_1 c_4 (Or.inl (eb0 (by rw [hj_5]; rfl) hSh.2.2.2 c_235))) (by decide)).1, (by rw [(cp_no (cw2 c_1 c_4 (Or.inl (eb0 (by rw [hj_5]; rfl) hSh.2.2.2 c_235))) (by decide)).2]; exact hSh)⟩, rfl⟩ hP hD hS dX9_copy_62
          · replace c_235 := bI_f c_235
            refine lv_aload hx hb dX9_copy_47 (lv_at hl 0 rfl) ?_
            refine kR_i (As := []) (rest := []) (q0 := 18) ⟨hx, hb, hml, hown, hts⟩ (x_X6_isMissing18 l D cy a _ J (va_up I 10 (I 10)) O (va_up (va_up (va_up (va_up R 13 (R 13)) 15 (R 15)) 17 (R 17)) 19 (R 19)) RO LL Y   ) (cwV 0 hts gX9_copy_X6_isMissing rfl rfl rfl (by decide +kernel) ⟨Nat.le_of_ble_eq_true rfl, Nat.le_of_ble_eq_true rfl⟩) hK hN hP hD rfl rfl rfl hl.1 rfl (Nat.le_of_ble_eq_true rfl) dX9_copy_49 ⟨Nat.le_of_ble_eq_true rfl, Nat.le_of_ble_eq_true rfl⟩ ?_
            refine lv_if_eq (tgt := 63) hx hb dX9_copy_52 (by decide) (fun c_238 => ?_) (fun c_238 => ?_)
            · replace c_238 := bI_f c_238
              refine lv_aload hx hb dX9_copy_63 (lv_at hl 1 rfl) ?_
              refine va_get (D := D) (ci := 5) (v := .int (I 577)) (C := RX6) (T := TX6) (N := 3) hx hb hts hi6 hown hK hP 18 rfl rfl 1 (by decide) hw3 (fun _ h9 => h9) rfl dX9_copy_65 ?_
              refine lv_aload hx hb dX9_copy_68 (lv_at hl 0 rfl) ?_
              refine va_get (D := D) (ci := 5) (v := .int (I 577)) (C := RX6) (T := TX6) (N := 3) hx hb hts hi6 hown hK hP 18 rfl rfl 1 (by decide) hw3 (fun _ h9 => h9) rfl dX9_copy_70 ?_
              refine lv_icmp_eq (tgt := 83) hx hb dX9_copy_73 (by decide) (fun c_239 => ?_) (fun c_239 => ?_)
              · refine lv_aload hx hb dX9_copy_83 (lv_at hl 1 rfl) ?_
                refine lv_iload_n hx hb dX9_copy_85 rfl (lv_at hl 4 rfl) ?_
                refine lv_iload hx hb dX9_copy_86 (lv_at hl 7 rfl) ?_
                refine kR_i (As := [.int x1, .int x4]) (rest := []) (q0 := 18) ⟨hx, hb, hml, hown, hts⟩ (x_X6_hasRange18 l D cy a _ J (va_up I 10 (I 10)) O (va_up (va_up (va_up (va_up R 13 (R 13)) 15 (R 15)) 17 (R 17)) 19 (R 19)) RO LL Y x1 x4  ) (cwV 2 hts gX9_copy_X6_hasRange rfl rfl rfl (by decide +kernel) ⟨Nat.le_of_ble_eq_true rfl, Nat.le_of_ble_eq_true rfl⟩) hK hN hP hD rfl rfl rfl hl.1 rfl (Nat.le_of_ble_eq_true rfl) dX9_copy_88 ⟨Nat.le_of_ble_eq_true rfl, Nat.le_of_ble_eq_true rfl⟩ ?_
                refine lv_if_eq (tgt := 106) hx hb dX9_copy_91 (by decide) (fun c_240 => ?_) (fun c_240 => ?_)
                · replace c_240 := bI_f c_240
                  refine lv_aload_n hx hb dX9_copy_106 rfl (lv_at hl 2 rfl) ?_
                  refine lv_ldc (v := (-100001)) hx hb hown hw0 dX9_copy_107 ?_
                  refine kM_i (As := [.int (-100001)]) (rest := []) (q0 := 0) ⟨hx, hb, hml, hown, hts⟩ (t_X9_finding l D cy a _ J (va_up I 10 (I 10)) O (va_up (va_up (va_up (va_up R 13 (R 13)) 15 (R 15)) 17 (R 17)) 19 (R 19)) RO LL Y ((-100001) : Int32)   ) (cwV 1 hts gX9_copy_X9_finding rfl rfl rfl (by decide +kernel) ⟨Nat.le_of_ble_eq_true rfl, Nat.le_of_ble_eq_true rfl⟩) hK hN hP hD hS hA rfl rfl rfl hl.1 rfl (Nat.le_of_ble_eq_true rfl) dX9_copy_109 ⟨Nat.le_of_ble_eq_true rfl, Nat.le_of_ble_eq_true rfl⟩ (fun r_241 u H locs hw hP hD hS => ?_)
                  obtain ⟨w_242, rfl, rfl⟩ := hw
                  have hP : va_P D vwCl (CT cy a J (va_up I 10 w_242) O (va_up (va_up (va_up (va_up R 13 (R 13)) 15 (R 15)) 17 (R 17)) 19 (R 19)) RO (LL ++ Y)) H := hP
                  have hD : va_D A (CT cy a J (va_up I 10 w_242) O (va_up (va_up (va_up (va_up R 13 (R 13)) 15 (R 15)) 17 (R 17)) 19 (R 19)) RO (LL ++ Y)) := hD
                  exact wret_i hx hb hr hlocks (J, (va_up I 10 w_242), O, (va_up (va_up (va_up (va_up R 13 (R 13)) 15 (R 15)) 17 (R 17)) 19 (R 19)), RO, LL, Y) ⟨w_242, (R 13), (R 15), (R 17), (R 19), ⟨(cp_no (V := Vs) (cw4 c_1 c_4 (nb0 (by rw [hj_5]; rfl) hSh.2.2.2 c_235) (nb0 (by rw [hj_189]; rfl) hSh.2.2.2 c_238) (by rw [bq (by rw [hj_5]; rfl) hSh.2.2.2, bq (by rw [hj_189]; rfl) hSh.2.2.2]) (ck_f1 (by rw [hj_5]; rfl) hSh.2.2.2 c_240)) (by decide)).1, (by rw [(cp_no (cw4 c_1 c_4 (nb0 (by rw [hj_5]; rfl) hSh.2.2.2 c_235) (nb0 (by rw [hj_189]; rfl) hSh.2.2.2 c_238) (by rw [bq (by rw [hj_5]; rfl) hSh.2.2.2, bq (by rw [hj_189]; rfl) hSh.2.2.2]) (ck_f1 (by rw [hj_5]; rfl) hSh.2.2.2 c_240)) (by decide)).2]; exact hSh)⟩, rfl⟩ hP hD hS dX9_copy_112
                · replace c_240 := bI_t c_240
                  refine lv_aload hx hb dX9_copy_94 (lv_at hl 0 rfl) ?_
                  refine lv_iload hx hb dX9_copy_96 (lv_at hl 6 rfl) ?_
                  refine lv_iload hx hb dX9_copy_98 (lv_at hl 7 rfl) ?_
                  refine kR_i (As := [.int x3, .int x4]) (rest := []) (q0 := 18) ⟨hx, hb, hml, hown, hts⟩ (x_X6_hasRange18 l D cy a _ J (va_up I 10 (I 10)) O (va_up (va_up (va_up (va_up R 13 (R 13)) 15 (R 15)) 17 (R 17)) 19 (R 19)) RO LL Y x3 x4  ) (cwV 2 hts gX9_copy_X6_hasRange rfl rfl rfl (by decide +kernel) ⟨Nat.le_of_ble_eq_true rfl, Nat.le_of_ble_eq_true rfl⟩) hK hN hP hD rfl rfl rfl hl.1 rfl (Nat.le_of_ble_eq_true rfl) dX9_copy_100 ⟨Nat.le_of_ble_eq_true rfl, Nat.le_of_ble_eq_true rfl⟩ ?_
                  refine lv_if_ne (tgt := 113) hx hb dX9_copy_103 (by decide) (fun c_243 => ?_) (fun c_243 => ?_)
                  · replace c_243 := bI_t c_243
                    refine lv_aload hx hb dX9_copy_113 (lv_at hl 1 rfl) ?_
                    refine va_get (D := D) (ci := 5) (v := .ref (a 19)) (C := RX6) (T := TX6) (N := 3) hx hb hts hi6 hown hK hP 18 rfl rfl 0 (by decide) hw4 (fun _ h9 => h9) rfl dX9_copy_115 ?_
                    refine lv_iload_n hx hb dX9_copy_118 rfl (lv_at hl 4 rfl) ?_
                    refine lv_aload hx hb dX9_copy_119 (lv_at hl 0 rfl) ?_
                    refine va_get (D := D) (ci := 5) (v := .ref (a 19)) (C := RX6) (T := TX6) (N := 3) hx hb hts hi6 hown hK hP 18 rfl rfl 0 (by decide) hw4 (fun _ h9 => h9) rfl dX9_copy_121 ?_
                    refine lv_iload hx hb dX9_copy_124 (lv_at hl 6 rfl) ?_
                    refine lv_iload hx hb dX9_copy_126 (lv_at hl 7 rfl) ?_
                    refine va_copyi hx hb (by rw [hml]; exact hl.1.symm) hown hw5 hw6 hw7 hw8 hK hP hD hS 19 19 0 0 rfl rfl rfl rfl rfl (rng_hr hSh.2.2.2 c_240).1 (rng_hr hSh.2.2.2 c_243).1 (rng_hr hSh.2.2.2 c_240).2.1 (rng_hr hSh.2.2.2 c_240).2.2 (rng_hr hSh.2.2.2 c_243).2.2 (fun _ _ => rfl) (Nat.le_of_ble_eq_true rfl) (Nat.le_of_ble_eq_true rfl) dX9_copy_128 (fun H locs hP hD hS => ?_)
                    have hP : va_P D vwCl (CT cy a J (va_up I 10 (I 10)) O (va_up (va_up (va_up (va_up R 13 (R 13)) 15 (R 15)) 17 (R 17)) 19 (va_cpy (R 19) (R 19) x1.toNatClampNeg x3.toNatClampNeg x4.toNatClampNeg)) RO (LL ++ Y)) H := hP
                    have hD : va_D A (CT cy a J (va_up I 10 (I 10)) O (va_up (va_up (va_up (va_up R 13 (R 13)) 15 (R 15)) 17 (R 17)) 19 (va_cpy (R 19) (R 19) x1.toNatClampNeg x3.toNatClampNeg x4.toNatClampNeg)) RO (LL ++ Y)) := hD
                    refine lv_iload hx hb dX9_copy_131 (lv_at hl 7 rfl) ?_
                    exact wret_i hx hb hr hlocks (J, (va_up I 10 (I 10)), O, (va_up (va_up (va_up (va_up R 13 (R 13)) 15 (R 15)) 17 (R 17)) 19 (va_cpy (R 19) (R 19) x1.toNatClampNeg x3.toNatClampNeg x4.toNatClampNeg)), RO, LL, Y) ⟨(I 10), (R 13), (R 15), (R 17), (va_cpy (R 19) (R 19) x1.toNatClampNeg x3.toNatClampNeg x4.toNatClampNeg), ⟨(cp_yes (V := Vs) (cw5 c_1 c_4 (nb0 (by rw [hj_5]; rfl) hSh.2.2.2 c_235) (nb0 (by rw [hj_189]; rfl) hSh.2.2.2 c_238) (by rw [bq (by rw [hj_5]; rfl) hSh.2.2.2, bq (by rw [hj_189]; rfl) hSh.2.2.2]) (ck_t (by rw [hj_5]; rfl) hSh.2.2.2 (by rw [hj_189]; rfl) hSh.2.2.2 c_240 c_243))).1, (by rw [(cp_yes (cw5 c_1 c_4 (nb0 (by rw [hj_5]; rfl) hSh.2.2.2 c_235) (nb0 (by rw [hj_189]; rfl) hSh.2.2.2 c_238) (by rw [bq (by rw [hj_5]; rfl) hSh.2.2.2, bq (by rw [hj_189]; rfl) hSh.2.2.2]) (ck_t (by rw [hj_5]; rfl) hSh.2.2.2 (by rw [hj_189]; rfl) hSh.2.2.2 c_240 c_243))).2]; exact RCs_v3 (by rw [hj_189]; rfl) hSh (ck_v (by rw [hj_5]; rfl) hSh.2.2.2 (by rw [hj_189]; rfl) hSh.2.2.2 c_240 c_243))⟩, rfl⟩ hP hD hS dX9_copy_133
                  · replace c_243 := bI_f c_243
                    refine lv_aload_n hx hb dX9_copy_106 rfl (lv_at hl 2 rfl) ?_
                    refine lv_ldc (v := (-100001)) hx hb hown hw0 dX9_copy_107 ?_
                    refine kM_i (As := [.int (-100001)]) (rest := []) (q0 := 0) ⟨hx, hb, hml, hown, hts⟩ (t_X9_finding l D cy a _ J (va_up I 10 (I 10)) O (va_up (va_up (va_up (va_up R 13 (R 13)) 15 (R 15)) 17 (R 17)) 19 (R 19)) RO LL Y ((-100001) : Int32)   ) (cwV 1 hts gX9_copy_X9_finding rfl rfl rfl (by decide +kernel) ⟨Nat.le_of_ble_eq_true rfl, Nat.le_of_ble_eq_true rfl⟩) hK hN hP hD hS hA rfl rfl rfl hl.1 rfl (Nat.le_of_ble_eq_true rfl) dX9_copy_109 ⟨Nat.le_of_ble_eq_true rfl, Nat.le_of_ble_eq_true rfl⟩ (fun r_244 u H locs hw hP hD hS => ?_)
                    obtain ⟨w_245, rfl, rfl⟩ := hw
                    have hP : va_P D vwCl (CT cy a J (va_up I 10 w_245) O (va_up (va_up (va_up (va_up R 13 (R 13)) 15 (R 15)) 17 (R 17)) 19 (R 19)) RO (LL ++ Y)) H := hP
                    have hD : va_D A (CT cy a J (va_up I 10 w_245) O (va_up (va_up (va_up (va_up R 13 (R 13)) 15 (R 15)) 17 (R 17)) 19 (R 19)) RO (LL ++ Y)) := hD
                    exact wret_i hx hb hr hlocks (J, (va_up I 10 w_245), O, (va_up (va_up (va_up (va_up R 13 (R 13)) 15 (R 15)) 17 (R 17)) 19 (R 19)), RO, LL, Y) ⟨w_245, (R 13), (R 15), (R 17), (R 19), ⟨(cp_no (V := Vs) (cw4 c_1 c_4 (nb0 (by rw [hj_5]; rfl) hSh.2.2.2 c_235) (nb0 (by rw [hj_189]; rfl) hSh.2.2.2 c_238) (by rw [bq (by rw [hj_5]; rfl) hSh.2.2.2, bq (by rw [hj_189]; rfl) hSh.2.2.2]) (ck_f2 (by rw [hj_189]; rfl) hSh.2.2.2 c_243)) (by decide)).1, (by rw [(cp_no (cw4 c_1 c_4 (nb0 (by rw [hj_5]; rfl) hSh.2.2.2 c_235) (nb0 (by rw [hj_189]; rfl) hSh.2.2.2 c_238) (by rw [bq (by rw [hj_5]; rfl) hSh.2.2.2, bq (by rw [hj_189]; rfl) hSh.2.2.2]) (ck_f2 (by rw [hj_189]; rfl) hSh.2.2.2 c_243)) (by decide)).2]; exact hSh)⟩, rfl⟩ hP hD hS dX9_copy_112
              · refine lv_aload_n hx hb dX9_copy_76 rfl (lv_at hl 2 rfl) ?_
                refine lv_ldc (v := (-100004)) hx hb hown hw9 dX9_copy_77 ?_
                refine kM_i (As := [.int (-100004)]) (rest := []) (q0 := 0) ⟨hx, hb, hml, hown, hts⟩ (t_X9_finding l D cy a _ J (va_up I 10 (I 10)) O (va_up (va_up (va_up (va_up R 13 (R 13)) 15 (R 15)) 17 (R 17)) 19 (R 19)) RO LL Y ((-100004) : Int32)   ) (cwV 1 hts gX9_copy_X9_finding rfl rfl rfl (by decide +kernel) ⟨Nat.le_of_ble_eq_true rfl, Nat.le_of_ble_eq_true rfl⟩) hK hN hP hD hS hA rfl rfl rfl hl.1 rfl (Nat.le_of_ble_eq_true rfl) dX9_copy_79 ⟨Nat.le_of_ble_eq_true rfl, Nat.le_of_ble_eq_true rfl⟩ (fun r_246 u H locs hw hP hD hS => ?_)
                obtain ⟨w_247, rfl, rfl⟩ := hw
                have hP : va_P D vwCl (CT cy a J (va_up I 10 w_247) O (va_up (va_up (va_up (va_up R 13 (R 13)) 15 (R 15)) 17 (R 17)) 19 (R 19)) RO (LL ++ Y)) H := hP
                have hD : va_D A (CT cy a J (va_up I 10 w_247) O (va_up (va_up (va_up (va_up R 13 (R 13)) 15 (R 15)) 17 (R 17)) 19 (R 19)) RO (LL ++ Y)) := hD
                exact wret_i hx hb hr hlocks (J, (va_up I 10 w_247), O, (va_up (va_up (va_up (va_up R 13 (R 13)) 15 (R 15)) 17 (R 17)) 19 (R 19)), RO, LL, Y) ⟨w_247, (R 13), (R 15), (R 17), (R 19), ⟨(cp_no (V := Vs) (cw3 c_1 c_4 (nb0 (by rw [hj_5]; rfl) hSh.2.2.2 c_235) (nb0 (by rw [hj_189]; rfl) hSh.2.2.2 c_238) (by rw [bq (by rw [hj_5]; rfl) hSh.2.2.2, bq (by rw [hj_189]; rfl) hSh.2.2.2]; exact c_239)) (by decide)).1, (by rw [(cp_no (cw3 c_1 c_4 (nb0 (by rw [hj_5]; rfl) hSh.2.2.2 c_235) (nb0 (by rw [hj_189]; rfl) hSh.2.2.2 c_238) (by rw [bq (by rw [hj_5]; rfl) hSh.2.2.2, bq (by rw [hj_189]; rfl) hSh.2.2.2]; exact c_239)) (by decide)).2]; exact hSh)⟩, rfl⟩ hP hD hS dX9_copy_82
            · replace c_238 := bI_t c_238
              refine lv_aload_n hx hb dX9_copy_55 rfl (lv_at hl 2 rfl) ?_
              refine lv_ldcw (v := (-100002)) hx hb hown hw2 dX9_copy_56 ?_
              refine kM_i (As := [.int (-100002)]) (rest := []) (q0 := 0) ⟨hx, hb, hml, hown, hts⟩ (t_X9_finding l D cy a _ J (va_up I 10 (I 10)) O (va_up (va_up (va_up (va_up R 13 (R 13)) 15 (R 15)) 17 (R 17)) 19 (R 19)) RO LL Y ((-100002) : Int32)   ) (cwV 1 hts gX9_copy_X9_finding rfl rfl rfl (by decide +kernel) ⟨Nat.le_of_ble_eq_true rfl, Nat.le_of_ble_eq_true rfl⟩) hK hN hP hD hS hA rfl rfl rfl hl.1 rfl (Nat.le_of_ble_eq_true rfl) dX9_copy_59 ⟨Nat.le_of_ble_eq_true rfl, Nat.le_of_ble_eq_true rfl⟩ (fun r_248 u H locs hw hP hD hS => ?_)
              obtain ⟨w_249, rfl, rfl⟩ := hw
              have hP : va_P D vwCl (CT cy a J (va_up I 10 w_249) O (va_up (va_up (va_up (va_up R 13 (R 13)) 15 (R 15)) 17 (R 17)) 19 (R 19)) RO (LL ++ Y)) H := hP
              have hD : va_D A (CT cy a J (va_up I 10 w_249) O (va_up (va_up (va_up (va_up R 13 (R 13)) 15 (R 15)) 17 (R 17)) 19 (R 19)) RO (LL ++ Y)) := hD
              exact wret_i hx hb hr hlocks (J, (va_up I 10 w_249), O, (va_up (va_up (va_up (va_up R 13 (R 13)) 15 (R 15)) 17 (R 17)) 19 (R 19)), RO, LL, Y) ⟨w_249, (R 13), (R 15), (R 17), (R 19), ⟨(cp_no (V := Vs) (cw2 c_1 c_4 (Or.inr (eb0 (by rw [hj_189]; rfl) hSh.2.2.2 c_238))) (by decide)).1, (by rw [(cp_no (cw2 c_1 c_4 (Or.inr (eb0 (by rw [hj_189]; rfl) hSh.2.2.2 c_238))) (by decide)).2]; exact hSh)⟩, rfl⟩ hP hD hS dX9_copy_62
    · replace c_4 := bI_f c_4
      refine lv_aload_n hx hb dX9_copy_16 rfl (lv_at hl 0 rfl) ?_
      refine lv_ldc (v := (-100001)) hx hb hown hw0 dX9_copy_17 ?_
      refine kM_i (As := [.int (-100001)]) (rest := []) (q0 := 0) ⟨hx, hb, hml, hown, hts⟩ (t_X9_finding l D cy a _ J (va_up I 10 (I 10)) O (va_up (va_up (va_up (va_up R 13 (R 13)) 15 (R 15)) 17 (R 17)) 19 (R 19)) RO LL Y ((-100001) : Int32)   ) (cwV 1 hts gX9_copy_X9_finding rfl rfl rfl (by decide +kernel) ⟨Nat.le_of_ble_eq_true rfl, Nat.le_of_ble_eq_true rfl⟩) hK hN hP hD hS hA rfl rfl rfl hl.1 rfl (Nat.le_of_ble_eq_true rfl) dX9_copy_19 ⟨Nat.le_of_ble_eq_true rfl, Nat.le_of_ble_eq_true rfl⟩ (fun r_250 u H locs hw hP hD hS => ?_)
      obtain ⟨w_251, rfl, rfl⟩ := hw
      have hP : va_P D vwCl (CT cy a J (va_up I 10 w_251) O (va_up (va_up (va_up (va_up R 13 (R 13)) 15 (R 15)) 17 (R 17)) 19 (R 19)) RO (LL ++ Y)) H := hP
      have hD : va_D A (CT cy a J (va_up I 10 w_251) O (va_up (va_up (va_up (va_up R 13 (R 13)) 15 (R 15)) 17 (R 17)) 19 (R 19)) RO (LL ++ Y)) := hD
      exact wret_i hx hb hr hlocks (J, (va_up I 10 w_251), O, (va_up (va_up (va_up (va_up R 13 (R 13)) 15 (R 15)) 17 (R 17)) 19 (R 19)), RO, LL, Y) ⟨w_251, (R 13), (R 15), (R 17), (R 19), ⟨(cp_no (V := Vs) (cw1 (by rw [c_4, Bool.and_false])) (by decide)).1, (by rw [(cp_no (cw1 (by rw [c_4, Bool.and_false])) (by decide)).2]; exact hSh)⟩, rfl⟩ hP hD hS dX9_copy_22
