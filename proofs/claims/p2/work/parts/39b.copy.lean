theorem dX9_copy_0 : decode cX9_copy 0 = .ok (.aload_n 0, 1) := by decide +kernel
theorem dX9_copy_1 : decode cX9_copy 1 = .ok (.iload_n 1, 1) := by decide +kernel
set_option maxRecDepth 20000 in
theorem ggX9_copy_X9_isSheet : GoodIn wsX9_copy wsX9_isSheet := goodIn_r _ [15, 2, 32, 33, 34, 35, 36, 37, 38, 39, 40, 41, 42] (by decide +kernel) (by decide +kernel)
set_option maxRecDepth 20000 in
theorem gX9_copy_X9_isSheet : GoodIn wsX9_copy (wsV RX9 279 RX9 yX9_isSheet wsX9_isSheet) := goodIn_app (goodIn_of _ (by decide +kernel)) ggX9_copy_X9_isSheet
theorem dX9_copy_2 : decode cX9_copy 2 = .ok (.invokevirtual 279, 3) := by decide +kernel
theorem dX9_copy_5 : decode cX9_copy 5 = .ok (.ifCond .eq 11, 3) := by decide +kernel
theorem dX9_copy_16 : decode cX9_copy 16 = .ok (.aload_n 0, 1) := by decide +kernel
theorem dX9_copy_17 : decode cX9_copy 17 = .ok (.ldc 43, 2) := by decide +kernel
set_option maxRecDepth 20000 in
theorem ggX9_copy_X9_finding : GoodIn wsX9_copy wsX9_finding := goodIn_r _ [19, 20, 32, 33, 34, 35, 36, 37, 38, 39, 40, 41, 42] (by decide +kernel) (by decide +kernel)
set_option maxRecDepth 20000 in
theorem gX9_copy_X9_finding : GoodIn wsX9_copy (wsV RX9 44 RX9 yX9_finding wsX9_finding) := goodIn_app (goodIn_of _ (by decide +kernel)) ggX9_copy_X9_finding
theorem dX9_copy_19 : decode cX9_copy 19 = .ok (.invokevirtual 44, 3) := by decide +kernel
theorem dX9_copy_22 : decode cX9_copy 22 = .ok (.ireturn, 1) := by decide +kernel
theorem dX9_copy_8 : decode cX9_copy 8 = .ok (.aload_n 0, 1) := by decide +kernel
theorem dX9_copy_9 : decode cX9_copy 9 = .ok (.iload_n 3, 1) := by decide +kernel
theorem dX9_copy_10 : decode cX9_copy 10 = .ok (.invokevirtual 279, 3) := by decide +kernel
theorem dX9_copy_13 : decode cX9_copy 13 = .ok (.ifCond .ne 10, 3) := by decide +kernel
theorem dX9_copy_23 : decode cX9_copy 23 = .ok (.aload_n 0, 1) := by decide +kernel
theorem dX9_copy_24 : decode cX9_copy 24 = .ok (.getfield 9, 3) := by decide +kernel
theorem dX9_copy_27 : decode cX9_copy 27 = .ok (.iload_n 1, 1) := by decide +kernel
theorem dX9_copy_28 : decode cX9_copy 28 = .ok (.aaload, 1) := by decide +kernel
theorem dX9_copy_29 : decode cX9_copy 29 = .ok (.astore 6, 2) := by decide +kernel
theorem dX9_copy_31 : decode cX9_copy 31 = .ok (.aload_n 0, 1) := by decide +kernel
theorem dX9_copy_32 : decode cX9_copy 32 = .ok (.getfield 9, 3) := by decide +kernel
theorem dX9_copy_35 : decode cX9_copy 35 = .ok (.iload_n 3, 1) := by decide +kernel
theorem dX9_copy_36 : decode cX9_copy 36 = .ok (.aaload, 1) := by decide +kernel
theorem dX9_copy_37 : decode cX9_copy 37 = .ok (.astore 7, 2) := by decide +kernel
theorem dX9_copy_39 : decode cX9_copy 39 = .ok (.aload 6, 2) := by decide +kernel
set_option maxRecDepth 20000 in
theorem ggX9_copy_X6_isMissing : GoodIn wsX9_copy wsX6_isMissing := goodIn_r _ [25, 26, 43, 44, 45] (by decide +kernel) (by decide +kernel)
set_option maxRecDepth 20000 in
theorem gX9_copy_X6_isMissing : GoodIn wsX9_copy (wsV RX9 289 RX6 yX6_isMissing wsX6_isMissing) := goodIn_app (goodIn_of _ (by decide +kernel)) ggX9_copy_X6_isMissing
theorem dX9_copy_41 : decode cX9_copy 41 = .ok (.invokevirtual 289, 3) := by decide +kernel
theorem dX9_copy_44 : decode cX9_copy 44 = .ok (.ifCond .ne 11, 3) := by decide +kernel
theorem dX9_copy_55 : decode cX9_copy 55 = .ok (.aload_n 0, 1) := by decide +kernel
theorem dX9_copy_56 : decode cX9_copy 56 = .ok (.ldc_w 292, 3) := by decide +kernel
theorem dX9_copy_59 : decode cX9_copy 59 = .ok (.invokevirtual 44, 3) := by decide +kernel
theorem dX9_copy_62 : decode cX9_copy 62 = .ok (.ireturn, 1) := by decide +kernel
theorem dX9_copy_47 : decode cX9_copy 47 = .ok (.aload 7, 2) := by decide +kernel
theorem dX9_copy_49 : decode cX9_copy 49 = .ok (.invokevirtual 289, 3) := by decide +kernel
theorem dX9_copy_52 : decode cX9_copy 52 = .ok (.ifCond .eq 11, 3) := by decide +kernel
theorem dX9_copy_63 : decode cX9_copy 63 = .ok (.aload 6, 2) := by decide +kernel
theorem dX9_copy_65 : decode cX9_copy 65 = .ok (.getfield 299, 3) := by decide +kernel
theorem dX9_copy_68 : decode cX9_copy 68 = .ok (.aload 7, 2) := by decide +kernel
theorem dX9_copy_70 : decode cX9_copy 70 = .ok (.getfield 299, 3) := by decide +kernel
theorem dX9_copy_73 : decode cX9_copy 73 = .ok (.if_icmp .eq 10, 3) := by decide +kernel
theorem dX9_copy_83 : decode cX9_copy 83 = .ok (.aload 6, 2) := by decide +kernel
theorem dX9_copy_85 : decode cX9_copy 85 = .ok (.iload_n 2, 1) := by decide +kernel
theorem dX9_copy_86 : decode cX9_copy 86 = .ok (.iload 5, 2) := by decide +kernel
set_option maxRecDepth 20000 in
theorem ggX9_copy_X6_hasRange : GoodIn wsX9_copy wsX6_hasRange := goodIn_r _ [30, 31, 43, 44, 45] (by decide +kernel) (by decide +kernel)
set_option maxRecDepth 20000 in
theorem gX9_copy_X6_hasRange : GoodIn wsX9_copy (wsV RX9 293 RX6 yX6_hasRange wsX6_hasRange) := goodIn_app (goodIn_of _ (by decide +kernel)) ggX9_copy_X6_hasRange
theorem dX9_copy_88 : decode cX9_copy 88 = .ok (.invokevirtual 293, 3) := by decide +kernel
theorem dX9_copy_91 : decode cX9_copy 91 = .ok (.ifCond .eq 15, 3) := by decide +kernel
theorem dX9_copy_106 : decode cX9_copy 106 = .ok (.aload_n 0, 1) := by decide +kernel
theorem dX9_copy_107 : decode cX9_copy 107 = .ok (.ldc 43, 2) := by decide +kernel
theorem dX9_copy_109 : decode cX9_copy 109 = .ok (.invokevirtual 44, 3) := by decide +kernel
theorem dX9_copy_112 : decode cX9_copy 112 = .ok (.ireturn, 1) := by decide +kernel
theorem dX9_copy_94 : decode cX9_copy 94 = .ok (.aload 7, 2) := by decide +kernel
theorem dX9_copy_96 : decode cX9_copy 96 = .ok (.iload 4, 2) := by decide +kernel
theorem dX9_copy_98 : decode cX9_copy 98 = .ok (.iload 5, 2) := by decide +kernel
theorem dX9_copy_100 : decode cX9_copy 100 = .ok (.invokevirtual 293, 3) := by decide +kernel
theorem dX9_copy_103 : decode cX9_copy 103 = .ok (.ifCond .ne 10, 3) := by decide +kernel
theorem dX9_copy_113 : decode cX9_copy 113 = .ok (.aload 6, 2) := by decide +kernel
theorem dX9_copy_115 : decode cX9_copy 115 = .ok (.getfield 302, 3) := by decide +kernel
theorem dX9_copy_118 : decode cX9_copy 118 = .ok (.iload_n 2, 1) := by decide +kernel
theorem dX9_copy_119 : decode cX9_copy 119 = .ok (.aload 7, 2) := by decide +kernel
theorem dX9_copy_121 : decode cX9_copy 121 = .ok (.getfield 302, 3) := by decide +kernel
theorem dX9_copy_124 : decode cX9_copy 124 = .ok (.iload 4, 2) := by decide +kernel
theorem dX9_copy_126 : decode cX9_copy 126 = .ok (.iload 5, 2) := by decide +kernel
theorem dX9_copy_128 : decode cX9_copy 128 = .ok (.invokestatic 305, 3) := by decide +kernel
theorem dX9_copy_131 : decode cX9_copy 131 = .ok (.iload 5, 2) := by decide +kernel
theorem dX9_copy_133 : decode cX9_copy 133 = .ok (.ireturn, 1) := by decide +kernel
theorem dX9_copy_76 : decode cX9_copy 76 = .ok (.aload_n 0, 1) := by decide +kernel
theorem dX9_copy_77 : decode cX9_copy 77 = .ok (.ldc 128, 2) := by decide +kernel
theorem dX9_copy_79 : decode cX9_copy 79 = .ok (.invokevirtual 44, 3) := by decide +kernel
theorem dX9_copy_82 : decode cX9_copy 82 = .ok (.ireturn, 1) := by decide +kernel
set_option maxRecDepth 20000 in
theorem ihX9_copy_6 : ∀ w ∈ u_ws RX6 TX6 3, w ∈ wsX9_copy := by decide +kernel
set_option maxRecDepth 20000 in
theorem ihX9_copy_9 : ∀ w ∈ u_ws RX9 TX9 11, w ∈ wsX9_copy := by decide +kernel
set_option maxHeartbeats 4000000 in
set_option maxRecDepth 100000 in
theorem t_X9_copy (l : Launch) (D : va_G) (cy : Nat → ClassId) (a : Nat → Nat) (sz : Nat) (J : Nat → Int64) (I : Nat → Int32) (O : Nat → Option Nat) (R : Nat → Nat → Int32) (RO : Nat → Nat → Option Nat) (LL : va_W) (Y : va_W) (x0 : Int32) (x1 : Int32) (x2 : Int32) (x3 : Int32) (x4 : Int32) (hM : CI a Y I O RO) : Met l yX9_copy wsX9_copy ({ frames := 1, cells := 0, slots := 0, locals := 79 }) (va_Pc [.ref (a 0), .int x0, .int x1, .int x2, .int x3, .int x4] (PW D cy sz (CT cy a J I O R RO (LL ++ Y)))) (va_Qi (fun r (u : TS) => ∃ (w0 : Int32), ∃ (w1 : Nat → Int32), ∃ (w2 : Nat → Int32), ∃ (w3 : Nat → Int32), ∃ (w4 : Nat → Int32), (True) ∧ u = (J, (va_up I 10 w0), O, (va_up (va_up (va_up (va_up R 13 w1) 15 w2) 17 w3) 19 w4), RO, LL, Y)) (BW D (va_A (CT cy a J I O R RO (LL ++ Y)) sz) (CTu cy a)) (va_A (CT cy a J I O R RO (LL ++ Y)) sz)) 0 0 (va_A (CT cy a J I O R RO (LL ++ Y)) sz) := by
  refine Met.ofW (cc := cX9_copy) (maxL := 8) (ret := (some .int)) (by decide) rfl ?_
  intro p e s m args below meth c s₁ B hml hv
  obtain ⟨rfl, rfl, hP, hK, hN, hD0⟩ := hv
  have hx := B.exec
  have hb := B.bytes
  have hr := B.returns
  have hts := atoms_spec (ws := wsX9_copy) B.pre
  have hown : s.vm.findClass RX9 = some m.cls := findClass_of_methodNamed B.named
  have hlocks := B.notSynchronized
  have hw0 := hts (.constant RX9 43 (-100001)) (by decide +kernel)
  have hw1 := hts (.fieldLink RX9 9 "ParquetLayer" "sheets" "[LParquetLayer$Sheet;") (by decide +kernel)
  have hw2 := hts (.constant RX9 292 (-100002)) (by decide +kernel)
  have hw3 := hts (.fieldLink RX9 299 "ParquetLayer$Sheet" "bits" "I") (by decide +kernel)
  have hw4 := hts (.fieldLink RX9 302 "ParquetLayer$Sheet" "numbers" "[I") (by decide +kernel)
  have hw5 := hts (.methodLink RX9 305 arraycopyName) (by decide +kernel)
  have hw6 := hts (.native arraycopyName) (by decide +kernel)
  have hw7 := hts (.static arraycopyName) (by decide +kernel)
  have hw8 := hts (.initialized "java/lang/System") (by decide +kernel)
  have hw9 := hts (.constant RX9 128 (-100004)) (by decide +kernel)
  have hi6 := ihX9_copy_6
  have hi9 := ihX9_copy_9
  have hD := hD0.self (sz := s.heap.size)
  generalize hAe : va_A (CT cy a J I O R RO (LL ++ Y)) s.heap.size = A at hD ⊢
  have hA : ∀ q : Nat, s.heap.size ≤ q → A q := fun q h => by rw [← hAe]; exact Or.inr h
  have hS : va_S A s.heap s.heap [] := va_S.rf
  have hl := lv_entry ([.ref (a 0), .int x0, .int x1, .int x2, .int x3, .int x4]) (n := 8) (Nat.le_of_ble_eq_true rfl)
  rw [lg_entry_eq]
  generalize (lg_sl ([.ref (a 0), .int x0, .int x1, .int x2, .int x3, .int x4]) ++ List.replicate (8 - (lg_sl ([.ref (a 0), .int x0, .int x1, .int x2, .int x3, .int x4])).length) Slot.unset).toArray = ls at hl ⊢
  have hl : lv_has ls 8 [(0, .ref (a 0)), (1, .int x0), (2, .int x1), (3, .int x2), (4, .int x3), (5, .int x4)] := hl
  have hRO0 := hM.2.2.2.2.2.2.2.2.1
  have hRO1 := hM.2.2.2.2.2.2.2.2.2.1
  have hRO2 := hM.2.2.2.2.2.2.2.2.2.2.1
  have hRO3 := hM.2.2.2.2.2.2.2.2.2.2.2
  have hP : va_P D vwCl (CT cy a J (va_up I 10 (I 10)) O (va_up (va_up (va_up (va_up R 13 (R 13)) 15 (R 15)) 17 (R 17)) 19 (R 19)) RO (LL ++ Y)) s.heap := hP
  have hD : va_D A (CT cy a J (va_up I 10 (I 10)) O (va_up (va_up (va_up (va_up R 13 (R 13)) 15 (R 15)) 17 (R 17)) 19 (R 19)) RO (LL ++ Y)) := hD
  refine lv_aload_n hx hb dX9_copy_0 rfl (lv_at hl 0 rfl) ?_
  refine lv_iload_n hx hb dX9_copy_1 rfl (lv_at hl 1 rfl) ?_
  refine kR_i (As := [.int x0]) (rest := []) (q0 := 0) ⟨hx, hb, hml, hown, hts⟩ (t_X9_isSheet l D cy a _ J (va_up I 10 (I 10)) O (va_up (va_up (va_up (va_up R 13 (R 13)) 15 (R 15)) 17 (R 17)) 19 (R 19)) RO LL Y x0  ) (cwV 1 hts gX9_copy_X9_isSheet rfl rfl rfl (by decide +kernel) ⟨Nat.le_of_ble_eq_true rfl, Nat.le_of_ble_eq_true rfl⟩) hK hN hP hD rfl rfl rfl hl.1 rfl (Nat.le_of_ble_eq_true rfl) dX9_copy_2 ⟨Nat.le_of_ble_eq_true rfl, Nat.le_of_ble_eq_true rfl⟩ ?_
  refine lv_if_eq (tgt := 16) hx hb dX9_copy_5 (by decide) (fun c_1 => ?_) (fun c_1 => ?_)
  · replace c_1 := bI_f c_1
    refine lv_aload_n hx hb dX9_copy_16 rfl (lv_at hl 0 rfl) ?_
    refine lv_ldc (v := (-100001)) hx hb hown hw0 dX9_copy_17 ?_
    refine kM_i (As := [.int (-100001)]) (rest := []) (q0 := 0) ⟨hx, hb, hml, hown, hts⟩ (t_X9_finding l D cy a _ J (va_up I 10 (I 10)) O (va_up (va_up (va_up (va_up R 13 (R 13)) 15 (R 15)) 17 (R 17)) 19 (R 19)) RO LL Y ((-100001) : Int32)   ) (cwV 1 hts gX9_copy_X9_finding rfl rfl rfl (by decide +kernel) ⟨Nat.le_of_ble_eq_true rfl, Nat.le_of_ble_eq_true rfl⟩) hK hN hP hD hS hA rfl rfl rfl hl.1 rfl (Nat.le_of_ble_eq_true rfl) dX9_copy_19 ⟨Nat.le_of_ble_eq_true rfl, Nat.le_of_ble_eq_true rfl⟩ (fun r_2 u H locs hw hP hD hS => ?_)
    obtain ⟨w_3, rfl, rfl⟩ := hw
    have hP : va_P D vwCl (CT cy a J (va_up I 10 w_3) O (va_up (va_up (va_up (va_up R 13 (R 13)) 15 (R 15)) 17 (R 17)) 19 (R 19)) RO (LL ++ Y)) H := hP
    have hD : va_D A (CT cy a J (va_up I 10 w_3) O (va_up (va_up (va_up (va_up R 13 (R 13)) 15 (R 15)) 17 (R 17)) 19 (R 19)) RO (LL ++ Y)) := hD
    exact wret_i hx hb hr hlocks (J, (va_up I 10 w_3), O, (va_up (va_up (va_up (va_up R 13 (R 13)) 15 (R 15)) 17 (R 17)) 19 (R 19)), RO, LL, Y) ⟨w_3, (R 13), (R 15), (R 17), (R 19), trivial, rfl⟩ hP hD hS dX9_copy_22
  · replace c_1 := bI_t c_1
    refine lv_aload_n hx hb dX9_copy_8 rfl (lv_at hl 0 rfl) ?_
    refine lv_iload_n hx hb dX9_copy_9 rfl (lv_at hl 3 rfl) ?_
    refine kR_i (As := [.int x2]) (rest := []) (q0 := 0) ⟨hx, hb, hml, hown, hts⟩ (t_X9_isSheet l D cy a _ J (va_up I 10 (I 10)) O (va_up (va_up (va_up (va_up R 13 (R 13)) 15 (R 15)) 17 (R 17)) 19 (R 19)) RO LL Y x2  ) (cwV 1 hts gX9_copy_X9_isSheet rfl rfl rfl (by decide +kernel) ⟨Nat.le_of_ble_eq_true rfl, Nat.le_of_ble_eq_true rfl⟩) hK hN hP hD rfl rfl rfl hl.1 rfl (Nat.le_of_ble_eq_true rfl) dX9_copy_10 ⟨Nat.le_of_ble_eq_true rfl, Nat.le_of_ble_eq_true rfl⟩ ?_
    refine lv_if_ne (tgt := 23) hx hb dX9_copy_13 (by decide) (fun c_4 => ?_) (fun c_4 => ?_)
    · replace c_4 := bI_t c_4
      refine lv_aload_n hx hb dX9_copy_23 rfl (lv_at hl 0 rfl) ?_
      refine va_get (D := D) (ci := 8) (v := .ref (a 1)) (C := RX9) (T := TX9) (N := 11) hx hb hts hi9 hown hK hP 0 rfl rfl 0 (by decide) hw1 (fun _ h9 => h9) rfl dX9_copy_24 ?_
      refine lv_iload_n hx hb dX9_copy_27 rfl (lv_at hl 1 rfl) ?_
      refine va_aldq hx hb hK hP 1 4 rfl rfl (within_in4 c_1) dX9_copy_28 ?_
      rcases in4 (within_in4 c_1) with hj_5 | hj_5 | hj_5 | hj_5
      · refine wtop_v (y := .ref (a 12)) (by rw [hj_5]; exact congrArg va_rf hRO0) ?_
        refine lv_astore (lv' := [(6, .ref (a 12)), (0, .ref (a 0)), (1, .int x0), (2, .int x1), (3, .int x2), (4, .int x3), (5, .int x4)]) hx hb dX9_copy_29 hl (by decide) rfl (fun ls hl => ?_)
        refine lv_aload_n hx hb dX9_copy_31 rfl (lv_at hl 1 rfl) ?_
        refine va_get (D := D) (ci := 8) (v := .ref (a 1)) (C := RX9) (T := TX9) (N := 11) hx hb hts hi9 hown hK hP 0 rfl rfl 0 (by decide) hw1 (fun _ h9 => h9) rfl dX9_copy_32 ?_
        refine lv_iload_n hx hb dX9_copy_35 rfl (lv_at hl 4 rfl) ?_
        refine va_aldq hx hb hK hP 1 4 rfl rfl (within_in4 c_4) dX9_copy_36 ?_
        rcases in4 (within_in4 c_4) with hj_6 | hj_6 | hj_6 | hj_6
        · refine wtop_v (y := .ref (a 12)) (by rw [hj_6]; exact congrArg va_rf hRO0) ?_
          refine lv_astore (lv' := [(7, .ref (a 12)), (6, .ref (a 12)), (0, .ref (a 0)), (1, .int x0), (2, .int x1), (3, .int x2), (4, .int x3), (5, .int x4)]) hx hb dX9_copy_37 hl (by decide) rfl (fun ls hl => ?_)
          refine lv_aload hx hb dX9_copy_39 (lv_at hl 1 rfl) ?_
          refine kRa_i (As := []) (rest := []) (q0 := 12) ⟨hx, hb, hml, hown, hts⟩ (t_X6_isMissing12 l D cy a _ J (va_up I 10 (I 10)) O (va_up (va_up (va_up (va_up R 13 (R 13)) 15 (R 15)) 17 (R 17)) 19 (R 19)) RO LL Y   ) (cwV 0 hts gX9_copy_X6_isMissing rfl rfl rfl (by decide +kernel) ⟨Nat.le_of_ble_eq_true rfl, Nat.le_of_ble_eq_true rfl⟩) hK hN hP hD rfl rfl rfl hl.1 rfl (Nat.le_of_ble_eq_true rfl) dX9_copy_41 ⟨Nat.le_of_ble_eq_true rfl, Nat.le_of_ble_eq_true rfl⟩ (fun r_7 hr_8 => ?_)
          obtain ⟨zb_9, rfl⟩ := hr_8
          refine lv_if_ne (tgt := 55) hx hb dX9_copy_44 (by decide) (fun c_10 => ?_) (fun c_10 => ?_)
          · replace c_10 := bI_t c_10
            refine lv_aload_n hx hb dX9_copy_55 rfl (lv_at hl 2 rfl) ?_
            refine lv_ldcw (v := (-100002)) hx hb hown hw2 dX9_copy_56 ?_
            refine kM_i (As := [.int (-100002)]) (rest := []) (q0 := 0) ⟨hx, hb, hml, hown, hts⟩ (t_X9_finding l D cy a _ J (va_up I 10 (I 10)) O (va_up (va_up (va_up (va_up R 13 (R 13)) 15 (R 15)) 17 (R 17)) 19 (R 19)) RO LL Y ((-100002) : Int32)   ) (cwV 1 hts gX9_copy_X9_finding rfl rfl rfl (by decide +kernel) ⟨Nat.le_of_ble_eq_true rfl, Nat.le_of_ble_eq_true rfl⟩) hK hN hP hD hS hA rfl rfl rfl hl.1 rfl (Nat.le_of_ble_eq_true rfl) dX9_copy_59 ⟨Nat.le_of_ble_eq_true rfl, Nat.le_of_ble_eq_true rfl⟩ (fun r_11 u H locs hw hP hD hS => ?_)
            obtain ⟨w_12, rfl, rfl⟩ := hw
            have hP : va_P D vwCl (CT cy a J (va_up I 10 w_12) O (va_up (va_up (va_up (va_up R 13 (R 13)) 15 (R 15)) 17 (R 17)) 19 (R 19)) RO (LL ++ Y)) H := hP
            have hD : va_D A (CT cy a J (va_up I 10 w_12) O (va_up (va_up (va_up (va_up R 13 (R 13)) 15 (R 15)) 17 (R 17)) 19 (R 19)) RO (LL ++ Y)) := hD
            exact wret_i hx hb hr hlocks (J, (va_up I 10 w_12), O, (va_up (va_up (va_up (va_up R 13 (R 13)) 15 (R 15)) 17 (R 17)) 19 (R 19)), RO, LL, Y) ⟨w_12, (R 13), (R 15), (R 17), (R 19), trivial, rfl⟩ hP hD hS dX9_copy_62
          · replace c_10 := bI_f c_10
            refine lv_aload hx hb dX9_copy_47 (lv_at hl 0 rfl) ?_
            refine kRa_i (As := []) (rest := []) (q0 := 12) ⟨hx, hb, hml, hown, hts⟩ (t_X6_isMissing12 l D cy a _ J (va_up I 10 (I 10)) O (va_up (va_up (va_up (va_up R 13 (R 13)) 15 (R 15)) 17 (R 17)) 19 (R 19)) RO LL Y   ) (cwV 0 hts gX9_copy_X6_isMissing rfl rfl rfl (by decide +kernel) ⟨Nat.le_of_ble_eq_true rfl, Nat.le_of_ble_eq_true rfl⟩) hK hN hP hD rfl rfl rfl hl.1 rfl (Nat.le_of_ble_eq_true rfl) dX9_copy_49 ⟨Nat.le_of_ble_eq_true rfl, Nat.le_of_ble_eq_true rfl⟩ (fun r_13 hr_14 => ?_)
            obtain ⟨zb_15, rfl⟩ := hr_14
            refine lv_if_eq (tgt := 63) hx hb dX9_copy_52 (by decide) (fun c_16 => ?_) (fun c_16 => ?_)
            · replace c_16 := bI_f c_16
              refine lv_aload hx hb dX9_copy_63 (lv_at hl 1 rfl) ?_
              refine va_get (D := D) (ci := 5) (v := .int (I 385)) (C := RX6) (T := TX6) (N := 3) hx hb hts hi6 hown hK hP 12 rfl rfl 1 (by decide) hw3 (fun _ h9 => h9) rfl dX9_copy_65 ?_
              refine lv_aload hx hb dX9_copy_68 (lv_at hl 0 rfl) ?_
              refine va_get (D := D) (ci := 5) (v := .int (I 385)) (C := RX6) (T := TX6) (N := 3) hx hb hts hi6 hown hK hP 12 rfl rfl 1 (by decide) hw3 (fun _ h9 => h9) rfl dX9_copy_70 ?_
              refine lv_icmp_eq (tgt := 83) hx hb dX9_copy_73 (by decide) (fun c_17 => ?_) (fun c_17 => ?_)
              · refine lv_aload hx hb dX9_copy_83 (lv_at hl 1 rfl) ?_
                refine lv_iload_n hx hb dX9_copy_85 rfl (lv_at hl 4 rfl) ?_
                refine lv_iload hx hb dX9_copy_86 (lv_at hl 7 rfl) ?_
                refine kRa_i (As := [.int x1, .int x4]) (rest := []) (q0 := 12) ⟨hx, hb, hml, hown, hts⟩ (t_X6_hasRange12 l D cy a _ J (va_up I 10 (I 10)) O (va_up (va_up (va_up (va_up R 13 (R 13)) 15 (R 15)) 17 (R 17)) 19 (R 19)) RO LL Y x1 x4  ) (cwV 2 hts gX9_copy_X6_hasRange rfl rfl rfl (by decide +kernel) ⟨Nat.le_of_ble_eq_true rfl, Nat.le_of_ble_eq_true rfl⟩) hK hN hP hD rfl rfl rfl hl.1 rfl (Nat.le_of_ble_eq_true rfl) dX9_copy_88 ⟨Nat.le_of_ble_eq_true rfl, Nat.le_of_ble_eq_true rfl⟩ (fun r_18 hr_19 => ?_)
                refine lv_if_eq (tgt := 106) hx hb dX9_copy_91 (by decide) (fun c_20 => ?_) (fun c_20 => ?_)
                · refine lv_aload_n hx hb dX9_copy_106 rfl (lv_at hl 2 rfl) ?_
                  refine lv_ldc (v := (-100001)) hx hb hown hw0 dX9_copy_107 ?_
                  refine kM_i (As := [.int (-100001)]) (rest := []) (q0 := 0) ⟨hx, hb, hml, hown, hts⟩ (t_X9_finding l D cy a _ J (va_up I 10 (I 10)) O (va_up (va_up (va_up (va_up R 13 (R 13)) 15 (R 15)) 17 (R 17)) 19 (R 19)) RO LL Y ((-100001) : Int32)   ) (cwV 1 hts gX9_copy_X9_finding rfl rfl rfl (by decide +kernel) ⟨Nat.le_of_ble_eq_true rfl, Nat.le_of_ble_eq_true rfl⟩) hK hN hP hD hS hA rfl rfl rfl hl.1 rfl (Nat.le_of_ble_eq_true rfl) dX9_copy_109 ⟨Nat.le_of_ble_eq_true rfl, Nat.le_of_ble_eq_true rfl⟩ (fun r_21 u H locs hw hP hD hS => ?_)
                  obtain ⟨w_22, rfl, rfl⟩ := hw
                  have hP : va_P D vwCl (CT cy a J (va_up I 10 w_22) O (va_up (va_up (va_up (va_up R 13 (R 13)) 15 (R 15)) 17 (R 17)) 19 (R 19)) RO (LL ++ Y)) H := hP
                  have hD : va_D A (CT cy a J (va_up I 10 w_22) O (va_up (va_up (va_up (va_up R 13 (R 13)) 15 (R 15)) 17 (R 17)) 19 (R 19)) RO (LL ++ Y)) := hD
                  exact wret_i hx hb hr hlocks (J, (va_up I 10 w_22), O, (va_up (va_up (va_up (va_up R 13 (R 13)) 15 (R 15)) 17 (R 17)) 19 (R 19)), RO, LL, Y) ⟨w_22, (R 13), (R 15), (R 17), (R 19), trivial, rfl⟩ hP hD hS dX9_copy_112
                · refine lv_aload hx hb dX9_copy_94 (lv_at hl 0 rfl) ?_
                  refine lv_iload hx hb dX9_copy_96 (lv_at hl 6 rfl) ?_
                  refine lv_iload hx hb dX9_copy_98 (lv_at hl 7 rfl) ?_
                  refine kRa_i (As := [.int x3, .int x4]) (rest := []) (q0 := 12) ⟨hx, hb, hml, hown, hts⟩ (t_X6_hasRange12 l D cy a _ J (va_up I 10 (I 10)) O (va_up (va_up (va_up (va_up R 13 (R 13)) 15 (R 15)) 17 (R 17)) 19 (R 19)) RO LL Y x3 x4  ) (cwV 2 hts gX9_copy_X6_hasRange rfl rfl rfl (by decide +kernel) ⟨Nat.le_of_ble_eq_true rfl, Nat.le_of_ble_eq_true rfl⟩) hK hN hP hD rfl rfl rfl hl.1 rfl (Nat.le_of_ble_eq_true rfl) dX9_copy_100 ⟨Nat.le_of_ble_eq_true rfl, Nat.le_of_ble_eq_true rfl⟩ (fun r_23 hr_24 => ?_)
                  refine lv_if_ne (tgt := 113) hx hb dX9_copy_103 (by decide) (fun c_25 => ?_) (fun c_25 => ?_)
                  · refine lv_aload hx hb dX9_copy_113 (lv_at hl 1 rfl) ?_
                    refine va_get (D := D) (ci := 5) (v := .ref (a 13)) (C := RX6) (T := TX6) (N := 3) hx hb hts hi6 hown hK hP 12 rfl rfl 0 (by decide) hw4 (fun _ h9 => h9) rfl dX9_copy_115 ?_
                    refine lv_iload_n hx hb dX9_copy_118 rfl (lv_at hl 4 rfl) ?_
                    refine lv_aload hx hb dX9_copy_119 (lv_at hl 0 rfl) ?_
                    refine va_get (D := D) (ci := 5) (v := .ref (a 13)) (C := RX6) (T := TX6) (N := 3) hx hb hts hi6 hown hK hP 12 rfl rfl 0 (by decide) hw4 (fun _ h9 => h9) rfl dX9_copy_121 ?_
                    refine lv_iload hx hb dX9_copy_124 (lv_at hl 6 rfl) ?_
                    refine lv_iload hx hb dX9_copy_126 (lv_at hl 7 rfl) ?_
                    refine va_copyi hx hb (by rw [hml]; exact hl.1.symm) hown hw5 hw6 hw7 hw8 hK hP hD hS 13 13 0 0 rfl rfl rfl rfl rfl (hr_19.2 c_20).1 (hr_24.2 c_25).1 (hr_19.2 c_20).2.1 (hr_le hM.2.2.2.2.1 (hr_19.2 c_20)) (hr_le hM.2.2.2.2.1 (hr_24.2 c_25)) (fun _ _ => rfl) (Nat.le_of_ble_eq_true rfl) (Nat.le_of_ble_eq_true rfl) dX9_copy_128 (fun H locs hP hD hS => ?_)
                    have hP : va_P D vwCl (CT cy a J (va_up I 10 (I 10)) O (va_up (va_up (va_up (va_up R 13 (va_cpy (R 13) (R 13) x1.toNatClampNeg x3.toNatClampNeg x4.toNatClampNeg)) 15 (R 15)) 17 (R 17)) 19 (R 19)) RO (LL ++ Y)) H := hP
                    have hD : va_D A (CT cy a J (va_up I 10 (I 10)) O (va_up (va_up (va_up (va_up R 13 (va_cpy (R 13) (R 13) x1.toNatClampNeg x3.toNatClampNeg x4.toNatClampNeg)) 15 (R 15)) 17 (R 17)) 19 (R 19)) RO (LL ++ Y)) := hD
                    refine lv_iload hx hb dX9_copy_131 (lv_at hl 7 rfl) ?_
                    exact wret_i hx hb hr hlocks (J, (va_up I 10 (I 10)), O, (va_up (va_up (va_up (va_up R 13 (va_cpy (R 13) (R 13) x1.toNatClampNeg x3.toNatClampNeg x4.toNatClampNeg)) 15 (R 15)) 17 (R 17)) 19 (R 19)), RO, LL, Y) ⟨(I 10), (va_cpy (R 13) (R 13) x1.toNatClampNeg x3.toNatClampNeg x4.toNatClampNeg), (R 15), (R 17), (R 19), trivial, rfl⟩ hP hD hS dX9_copy_133
                  · refine lv_aload_n hx hb dX9_copy_106 rfl (lv_at hl 2 rfl) ?_
                    refine lv_ldc (v := (-100001)) hx hb hown hw0 dX9_copy_107 ?_
                    refine kM_i (As := [.int (-100001)]) (rest := []) (q0 := 0) ⟨hx, hb, hml, hown, hts⟩ (t_X9_finding l D cy a _ J (va_up I 10 (I 10)) O (va_up (va_up (va_up (va_up R 13 (R 13)) 15 (R 15)) 17 (R 17)) 19 (R 19)) RO LL Y ((-100001) : Int32)   ) (cwV 1 hts gX9_copy_X9_finding rfl rfl rfl (by decide +kernel) ⟨Nat.le_of_ble_eq_true rfl, Nat.le_of_ble_eq_true rfl⟩) hK hN hP hD hS hA rfl rfl rfl hl.1 rfl (Nat.le_of_ble_eq_true rfl) dX9_copy_109 ⟨Nat.le_of_ble_eq_true rfl, Nat.le_of_ble_eq_true rfl⟩ (fun r_26 u H locs hw hP hD hS => ?_)
                    obtain ⟨w_27, rfl, rfl⟩ := hw
                    have hP : va_P D vwCl (CT cy a J (va_up I 10 w_27) O (va_up (va_up (va_up (va_up R 13 (R 13)) 15 (R 15)) 17 (R 17)) 19 (R 19)) RO (LL ++ Y)) H := hP
                    have hD : va_D A (CT cy a J (va_up I 10 w_27) O (va_up (va_up (va_up (va_up R 13 (R 13)) 15 (R 15)) 17 (R 17)) 19 (R 19)) RO (LL ++ Y)) := hD
                    exact wret_i hx hb hr hlocks (J, (va_up I 10 w_27), O, (va_up (va_up (va_up (va_up R 13 (R 13)) 15 (R 15)) 17 (R 17)) 19 (R 19)), RO, LL, Y) ⟨w_27, (R 13), (R 15), (R 17), (R 19), trivial, rfl⟩ hP hD hS dX9_copy_112
              · refine lv_aload_n hx hb dX9_copy_76 rfl (lv_at hl 2 rfl) ?_
                refine lv_ldc (v := (-100004)) hx hb hown hw9 dX9_copy_77 ?_
                refine kM_i (As := [.int (-100004)]) (rest := []) (q0 := 0) ⟨hx, hb, hml, hown, hts⟩ (t_X9_finding l D cy a _ J (va_up I 10 (I 10)) O (va_up (va_up (va_up (va_up R 13 (R 13)) 15 (R 15)) 17 (R 17)) 19 (R 19)) RO LL Y ((-100004) : Int32)   ) (cwV 1 hts gX9_copy_X9_finding rfl rfl rfl (by decide +kernel) ⟨Nat.le_of_ble_eq_true rfl, Nat.le_of_ble_eq_true rfl⟩) hK hN hP hD hS hA rfl rfl rfl hl.1 rfl (Nat.le_of_ble_eq_true rfl) dX9_copy_79 ⟨Nat.le_of_ble_eq_true rfl, Nat.le_of_ble_eq_true rfl⟩ (fun r_28 u H locs hw hP hD hS => ?_)
                obtain ⟨w_29, rfl, rfl⟩ := hw
                have hP : va_P D vwCl (CT cy a J (va_up I 10 w_29) O (va_up (va_up (va_up (va_up R 13 (R 13)) 15 (R 15)) 17 (R 17)) 19 (R 19)) RO (LL ++ Y)) H := hP
                have hD : va_D A (CT cy a J (va_up I 10 w_29) O (va_up (va_up (va_up (va_up R 13 (R 13)) 15 (R 15)) 17 (R 17)) 19 (R 19)) RO (LL ++ Y)) := hD
                exact wret_i hx hb hr hlocks (J, (va_up I 10 w_29), O, (va_up (va_up (va_up (va_up R 13 (R 13)) 15 (R 15)) 17 (R 17)) 19 (R 19)), RO, LL, Y) ⟨w_29, (R 13), (R 15), (R 17), (R 19), trivial, rfl⟩ hP hD hS dX9_copy_82
            · replace c_16 := bI_t c_16
              refine lv_aload_n hx hb dX9_copy_55 rfl (lv_at hl 2 rfl) ?_
              refine lv_ldcw (v := (-100002)) hx hb hown hw2 dX9_copy_56 ?_
              refine kM_i (As := [.int (-100002)]) (rest := []) (q0 := 0) ⟨hx, hb, hml, hown, hts⟩ (t_X9_finding l D cy a _ J (va_up I 10 (I 10)) O (va_up (va_up (va_up (va_up R 13 (R 13)) 15 (R 15)) 17 (R 17)) 19 (R 19)) RO LL Y ((-100002) : Int32)   ) (cwV 1 hts gX9_copy_X9_finding rfl rfl rfl (by decide +kernel) ⟨Nat.le_of_ble_eq_true rfl, Nat.le_of_ble_eq_true rfl⟩) hK hN hP hD hS hA rfl rfl rfl hl.1 rfl (Nat.le_of_ble_eq_true rfl) dX9_copy_59 ⟨Nat.le_of_ble_eq_true rfl, Nat.le_of_ble_eq_true rfl⟩ (fun r_30 u H locs hw hP hD hS => ?_)
              obtain ⟨w_31, rfl, rfl⟩ := hw
              have hP : va_P D vwCl (CT cy a J (va_up I 10 w_31) O (va_up (va_up (va_up (va_up R 13 (R 13)) 15 (R 15)) 17 (R 17)) 19 (R 19)) RO (LL ++ Y)) H := hP
              have hD : va_D A (CT cy a J (va_up I 10 w_31) O (va_up (va_up (va_up (va_up R 13 (R 13)) 15 (R 15)) 17 (R 17)) 19 (R 19)) RO (LL ++ Y)) := hD
              exact wret_i hx hb hr hlocks (J, (va_up I 10 w_31), O, (va_up (va_up (va_up (va_up R 13 (R 13)) 15 (R 15)) 17 (R 17)) 19 (R 19)), RO, LL, Y) ⟨w_31, (R 13), (R 15), (R 17), (R 19), trivial, rfl⟩ hP hD hS dX9_copy_62
        · refine wtop_v (y := .ref (a 14)) (by rw [hj_6]; exact congrArg va_rf hRO1) ?_
          refine lv_astore (lv' := [(7, .ref (a 14)), (6, .ref (a 12)), (0, .ref (a 0)), (1, .int x0), (2, .int x1), (3, .int x2), (4, .int x3), (5, .int x4)]) hx hb dX9_copy_37 hl (by decide) rfl (fun ls hl => ?_)
          refine lv_aload hx hb dX9_copy_39 (lv_at hl 1 rfl) ?_
          refine kRa_i (As := []) (rest := []) (q0 := 12) ⟨hx, hb, hml, hown, hts⟩ (t_X6_isMissing12 l D cy a _ J (va_up I 10 (I 10)) O (va_up (va_up (va_up (va_up R 13 (R 13)) 15 (R 15)) 17 (R 17)) 19 (R 19)) RO LL Y   ) (cwV 0 hts gX9_copy_X6_isMissing rfl rfl rfl (by decide +kernel) ⟨Nat.le_of_ble_eq_true rfl, Nat.le_of_ble_eq_true rfl⟩) hK hN hP hD rfl rfl rfl hl.1 rfl (Nat.le_of_ble_eq_true rfl) dX9_copy_41 ⟨Nat.le_of_ble_eq_true rfl, Nat.le_of_ble_eq_true rfl⟩ (fun r_32 hr_33 => ?_)
          obtain ⟨zb_34, rfl⟩ := hr_33
          refine lv_if_ne (tgt := 55) hx hb dX9_copy_44 (by decide) (fun c_35 => ?_) (fun c_35 => ?_)
          · replace c_35 := bI_t c_35
            refine lv_aload_n hx hb dX9_copy_55 rfl (lv_at hl 2 rfl) ?_
            refine lv_ldcw (v := (-100002)) hx hb hown hw2 dX9_copy_56 ?_
            refine kM_i (As := [.int (-100002)]) (rest := []) (q0 := 0) ⟨hx, hb, hml, hown, hts⟩ (t_X9_finding l D cy a _ J (va_up I 10 (I 10)) O (va_up (va_up (va_up (va_up R 13 (R 13)) 15 (R 15)) 17 (R 17)) 19 (R 19)) RO LL Y ((-100002) : Int32)   ) (cwV 1 hts gX9_copy_X9_finding rfl rfl rfl (by decide +kernel) ⟨Nat.le_of_ble_eq_true rfl, Nat.le_of_ble_eq_true rfl⟩) hK hN hP hD hS hA rfl rfl rfl hl.1 rfl (Nat.le_of_ble_eq_true rfl) dX9_copy_59 ⟨Nat.le_of_ble_eq_true rfl, Nat.le_of_ble_eq_true rfl⟩ (fun r_36 u H locs hw hP hD hS => ?_)
            obtain ⟨w_37, rfl, rfl⟩ := hw
            have hP : va_P D vwCl (CT cy a J (va_up I 10 w_37) O (va_up (va_up (va_up (va_up R 13 (R 13)) 15 (R 15)) 17 (R 17)) 19 (R 19)) RO (LL ++ Y)) H := hP
            have hD : va_D A (CT cy a J (va_up I 10 w_37) O (va_up (va_up (va_up (va_up R 13 (R 13)) 15 (R 15)) 17 (R 17)) 19 (R 19)) RO (LL ++ Y)) := hD
            exact wret_i hx hb hr hlocks (J, (va_up I 10 w_37), O, (va_up (va_up (va_up (va_up R 13 (R 13)) 15 (R 15)) 17 (R 17)) 19 (R 19)), RO, LL, Y) ⟨w_37, (R 13), (R 15), (R 17), (R 19), trivial, rfl⟩ hP hD hS dX9_copy_62
          · replace c_35 := bI_f c_35
            refine lv_aload hx hb dX9_copy_47 (lv_at hl 0 rfl) ?_
            refine kRa_i (As := []) (rest := []) (q0 := 14) ⟨hx, hb, hml, hown, hts⟩ (t_X6_isMissing14 l D cy a _ J (va_up I 10 (I 10)) O (va_up (va_up (va_up (va_up R 13 (R 13)) 15 (R 15)) 17 (R 17)) 19 (R 19)) RO LL Y   ) (cwV 0 hts gX9_copy_X6_isMissing rfl rfl rfl (by decide +kernel) ⟨Nat.le_of_ble_eq_true rfl, Nat.le_of_ble_eq_true rfl⟩) hK hN hP hD rfl rfl rfl hl.1 rfl (Nat.le_of_ble_eq_true rfl) dX9_copy_49 ⟨Nat.le_of_ble_eq_true rfl, Nat.le_of_ble_eq_true rfl⟩ (fun r_38 hr_39 => ?_)
            obtain ⟨zb_40, rfl⟩ := hr_39
            refine lv_if_eq (tgt := 63) hx hb dX9_copy_52 (by decide) (fun c_41 => ?_) (fun c_41 => ?_)
            · replace c_41 := bI_f c_41
              refine lv_aload hx hb dX9_copy_63 (lv_at hl 1 rfl) ?_
              refine va_get (D := D) (ci := 5) (v := .int (I 385)) (C := RX6) (T := TX6) (N := 3) hx hb hts hi6 hown hK hP 12 rfl rfl 1 (by decide) hw3 (fun _ h9 => h9) rfl dX9_copy_65 ?_
              refine lv_aload hx hb dX9_copy_68 (lv_at hl 0 rfl) ?_
              refine va_get (D := D) (ci := 5) (v := .int (I 449)) (C := RX6) (T := TX6) (N := 3) hx hb hts hi6 hown hK hP 14 rfl rfl 1 (by decide) hw3 (fun _ h9 => h9) rfl dX9_copy_70 ?_
              refine lv_icmp_eq (tgt := 83) hx hb dX9_copy_73 (by decide) (fun c_42 => ?_) (fun c_42 => ?_)
              · refine lv_aload hx hb dX9_copy_83 (lv_at hl 1 rfl) ?_
                refine lv_iload_n hx hb dX9_copy_85 rfl (lv_at hl 4 rfl) ?_
                refine lv_iload hx hb dX9_copy_86 (lv_at hl 7 rfl) ?_
                refine kRa_i (As := [.int x1, .int x4]) (rest := []) (q0 := 12) ⟨hx, hb, hml, hown, hts⟩ (t_X6_hasRange12 l D cy a _ J (va_up I 10 (I 10)) O (va_up (va_up (va_up (va_up R 13 (R 13)) 15 (R 15)) 17 (R 17)) 19 (R 19)) RO LL Y x1 x4  ) (cwV 2 hts gX9_copy_X6_hasRange rfl rfl rfl (by decide +kernel) ⟨Nat.le_of_ble_eq_true rfl, Nat.le_of_ble_eq_true rfl⟩) hK hN hP hD rfl rfl rfl hl.1 rfl (Nat.le_of_ble_eq_true rfl) dX9_copy_88 ⟨Nat.le_of_ble_eq_true rfl, Nat.le_of_ble_eq_true rfl⟩ (fun r_43 hr_44 => ?_)
                refine lv_if_eq (tgt := 106) hx hb dX9_copy_91 (by decide) (fun c_45 => ?_) (fun c_45 => ?_)
                · refine lv_aload_n hx hb dX9_copy_106 rfl (lv_at hl 2 rfl) ?_
                  refine lv_ldc (v := (-100001)) hx hb hown hw0 dX9_copy_107 ?_
                  refine kM_i (As := [.int (-100001)]) (rest := []) (q0 := 0) ⟨hx, hb, hml, hown, hts⟩ (t_X9_finding l D cy a _ J (va_up I 10 (I 10)) O (va_up (va_up (va_up (va_up R 13 (R 13)) 15 (R 15)) 17 (R 17)) 19 (R 19)) RO LL Y ((-100001) : Int32)   ) (cwV 1 hts gX9_copy_X9_finding rfl rfl rfl (by decide +kernel) ⟨Nat.le_of_ble_eq_true rfl, Nat.le_of_ble_eq_true rfl⟩) hK hN hP hD hS hA rfl rfl rfl hl.1 rfl (Nat.le_of_ble_eq_true rfl) dX9_copy_109 ⟨Nat.le_of_ble_eq_true rfl, Nat.le_of_ble_eq_true rfl⟩ (fun r_46 u H locs hw hP hD hS => ?_)
                  obtain ⟨w_47, rfl, rfl⟩ := hw
                  have hP : va_P D vwCl (CT cy a J (va_up I 10 w_47) O (va_up (va_up (va_up (va_up R 13 (R 13)) 15 (R 15)) 17 (R 17)) 19 (R 19)) RO (LL ++ Y)) H := hP
                  have hD : va_D A (CT cy a J (va_up I 10 w_47) O (va_up (va_up (va_up (va_up R 13 (R 13)) 15 (R 15)) 17 (R 17)) 19 (R 19)) RO (LL ++ Y)) := hD
                  exact wret_i hx hb hr hlocks (J, (va_up I 10 w_47), O, (va_up (va_up (va_up (va_up R 13 (R 13)) 15 (R 15)) 17 (R 17)) 19 (R 19)), RO, LL, Y) ⟨w_47, (R 13), (R 15), (R 17), (R 19), trivial, rfl⟩ hP hD hS dX9_copy_112
                · refine lv_aload hx hb dX9_copy_94 (lv_at hl 0 rfl) ?_
                  refine lv_iload hx hb dX9_copy_96 (lv_at hl 6 rfl) ?_
                  refine lv_iload hx hb dX9_copy_98 (lv_at hl 7 rfl) ?_
                  refine kRa_i (As := [.int x3, .int x4]) (rest := []) (q0 := 14) ⟨hx, hb, hml, hown, hts⟩ (t_X6_hasRange14 l D cy a _ J (va_up I 10 (I 10)) O (va_up (va_up (va_up (va_up R 13 (R 13)) 15 (R 15)) 17 (R 17)) 19 (R 19)) RO LL Y x3 x4  ) (cwV 2 hts gX9_copy_X6_hasRange rfl rfl rfl (by decide +kernel) ⟨Nat.le_of_ble_eq_true rfl, Nat.le_of_ble_eq_true rfl⟩) hK hN hP hD rfl rfl rfl hl.1 rfl (Nat.le_of_ble_eq_true rfl) dX9_copy_100 ⟨Nat.le_of_ble_eq_true rfl, Nat.le_of_ble_eq_true rfl⟩ (fun r_48 hr_49 => ?_)
                  refine lv_if_ne (tgt := 113) hx hb dX9_copy_103 (by decide) (fun c_50 => ?_) (fun c_50 => ?_)
                  · refine lv_aload hx hb dX9_copy_113 (lv_at hl 1 rfl) ?_
                    refine va_get (D := D) (ci := 5) (v := .ref (a 13)) (C := RX6) (T := TX6) (N := 3) hx hb hts hi6 hown hK hP 12 rfl rfl 0 (by decide) hw4 (fun _ h9 => h9) rfl dX9_copy_115 ?_
                    refine lv_iload_n hx hb dX9_copy_118 rfl (lv_at hl 4 rfl) ?_
                    refine lv_aload hx hb dX9_copy_119 (lv_at hl 0 rfl) ?_
                    refine va_get (D := D) (ci := 5) (v := .ref (a 15)) (C := RX6) (T := TX6) (N := 3) hx hb hts hi6 hown hK hP 14 rfl rfl 0 (by decide) hw4 (fun _ h9 => h9) rfl dX9_copy_121 ?_
                    refine lv_iload hx hb dX9_copy_124 (lv_at hl 6 rfl) ?_
                    refine lv_iload hx hb dX9_copy_126 (lv_at hl 7 rfl) ?_
                    refine va_copyi hx hb (by rw [hml]; exact hl.1.symm) hown hw5 hw6 hw7 hw8 hK hP hD hS 13 15 0 0 rfl rfl rfl rfl rfl (hr_44.2 c_45).1 (hr_49.2 c_50).1 (hr_44.2 c_45).2.1 (hr_le hM.2.2.2.2.1 (hr_44.2 c_45)) (hr_le hM.2.2.2.2.2.1 (hr_49.2 c_50)) (fun _ _ => rfl) (Nat.le_of_ble_eq_true rfl) (Nat.le_of_ble_eq_true rfl) dX9_copy_128 (fun H locs hP hD hS => ?_)
                    have hP : va_P D vwCl (CT cy a J (va_up I 10 (I 10)) O (va_up (va_up (va_up (va_up R 13 (R 13)) 15 (va_cpy (R 13) (R 15) x1.toNatClampNeg x3.toNatClampNeg x4.toNatClampNeg)) 17 (R 17)) 19 (R 19)) RO (LL ++ Y)) H := hP
                    have hD : va_D A (CT cy a J (va_up I 10 (I 10)) O (va_up (va_up (va_up (va_up R 13 (R 13)) 15 (va_cpy (R 13) (R 15) x1.toNatClampNeg x3.toNatClampNeg x4.toNatClampNeg)) 17 (R 17)) 19 (R 19)) RO (LL ++ Y)) := hD
                    refine lv_iload hx hb dX9_copy_131 (lv_at hl 7 rfl) ?_
                    exact wret_i hx hb hr hlocks (J, (va_up I 10 (I 10)), O, (va_up (va_up (va_up (va_up R 13 (R 13)) 15 (va_cpy (R 13) (R 15) x1.toNatClampNeg x3.toNatClampNeg x4.toNatClampNeg)) 17 (R 17)) 19 (R 19)), RO, LL, Y) ⟨(I 10), (R 13), (va_cpy (R 13) (R 15) x1.toNatClampNeg x3.toNatClampNeg x4.toNatClampNeg), (R 17), (R 19), trivial, rfl⟩ hP hD hS dX9_copy_133
                  · refine lv_aload_n hx hb dX9_copy_106 rfl (lv_at hl 2 rfl) ?_
                    refine lv_ldc (v := (-100001)) hx hb hown hw0 dX9_copy_107 ?_
                    refine kM_i (As := [.int (-100001)]) (rest := []) (q0 := 0) ⟨hx, hb, hml, hown, hts⟩ (t_X9_finding l D cy a _ J (va_up I 10 (I 10)) O (va_up (va_up (va_up (va_up R 13 (R 13)) 15 (R 15)) 17 (R 17)) 19 (R 19)) RO LL Y ((-100001) : Int32)   ) (cwV 1 hts gX9_copy_X9_finding rfl rfl rfl (by decide +kernel) ⟨Nat.le_of_ble_eq_true rfl, Nat.le_of_ble_eq_true rfl⟩) hK hN hP hD hS hA rfl rfl rfl hl.1 rfl (Nat.le_of_ble_eq_true rfl) dX9_copy_109 ⟨Nat.le_of_ble_eq_true rfl, Nat.le_of_ble_eq_true rfl⟩ (fun r_51 u H locs hw hP hD hS => ?_)
                    obtain ⟨w_52, rfl, rfl⟩ := hw
                    have hP : va_P D vwCl (CT cy a J (va_up I 10 w_52) O (va_up (va_up (va_up (va_up R 13 (R 13)) 15 (R 15)) 17 (R 17)) 19 (R 19)) RO (LL ++ Y)) H := hP
                    have hD : va_D A (CT cy a J (va_up I 10 w_52) O (va_up (va_up (va_up (va_up R 13 (R 13)) 15 (R 15)) 17 (R 17)) 19 (R 19)) RO (LL ++ Y)) := hD
                    exact wret_i hx hb hr hlocks (J, (va_up I 10 w_52), O, (va_up (va_up (va_up (va_up R 13 (R 13)) 15 (R 15)) 17 (R 17)) 19 (R 19)), RO, LL, Y) ⟨w_52, (R 13), (R 15), (R 17), (R 19), trivial, rfl⟩ hP hD hS dX9_copy_112
              · refine lv_aload_n hx hb dX9_copy_76 rfl (lv_at hl 2 rfl) ?_
                refine lv_ldc (v := (-100004)) hx hb hown hw9 dX9_copy_77 ?_
                refine kM_i (As := [.int (-100004)]) (rest := []) (q0 := 0) ⟨hx, hb, hml, hown, hts⟩ (t_X9_finding l D cy a _ J (va_up I 10 (I 10)) O (va_up (va_up (va_up (va_up R 13 (R 13)) 15 (R 15)) 17 (R 17)) 19 (R 19)) RO LL Y ((-100004) : Int32)   ) (cwV 1 hts gX9_copy_X9_finding rfl rfl rfl (by decide +kernel) ⟨Nat.le_of_ble_eq_true rfl, Nat.le_of_ble_eq_true rfl⟩) hK hN hP hD hS hA rfl rfl rfl hl.1 rfl (Nat.le_of_ble_eq_true rfl) dX9_copy_79 ⟨Nat.le_of_ble_eq_true rfl, Nat.le_of_ble_eq_true rfl⟩ (fun r_53 u H locs hw hP hD hS => ?_)
                obtain ⟨w_54, rfl, rfl⟩ := hw
                have hP : va_P D vwCl (CT cy a J (va_up I 10 w_54) O (va_up (va_up (va_up (va_up R 13 (R 13)) 15 (R 15)) 17 (R 17)) 19 (R 19)) RO (LL ++ Y)) H := hP
                have hD : va_D A (CT cy a J (va_up I 10 w_54) O (va_up (va_up (va_up (va_up R 13 (R 13)) 15 (R 15)) 17 (R 17)) 19 (R 19)) RO (LL ++ Y)) := hD
                exact wret_i hx hb hr hlocks (J, (va_up I 10 w_54), O, (va_up (va_up (va_up (va_up R 13 (R 13)) 15 (R 15)) 17 (R 17)) 19 (R 19)), RO, LL, Y) ⟨w_54, (R 13), (R 15), (R 17), (R 19), trivial, rfl⟩ hP hD hS dX9_copy_82
            · replace c_41 := bI_t c_41
              refine lv_aload_n hx hb dX9_copy_55 rfl (lv_at hl 2 rfl) ?_
              refine lv_ldcw (v := (-100002)) hx hb hown hw2 dX9_copy_56 ?_
              refine kM_i (As := [.int (-100002)]) (rest := []) (q0 := 0) ⟨hx, hb, hml, hown, hts⟩ (t_X9_finding l D cy a _ J (va_up I 10 (I 10)) O (va_up (va_up (va_up (va_up R 13 (R 13)) 15 (R 15)) 17 (R 17)) 19 (R 19)) RO LL Y ((-100002) : Int32)   ) (cwV 1 hts gX9_copy_X9_finding rfl rfl rfl (by decide +kernel) ⟨Nat.le_of_ble_eq_true rfl, Nat.le_of_ble_eq_true rfl⟩) hK hN hP hD hS hA rfl rfl rfl hl.1 rfl (Nat.le_of_ble_eq_true rfl) dX9_copy_59 ⟨Nat.le_of_ble_eq_true rfl, Nat.le_of_ble_eq_true rfl⟩ (fun r_55 u H locs hw hP hD hS => ?_)
              obtain ⟨w_56, rfl, rfl⟩ := hw
              have hP : va_P D vwCl (CT cy a J (va_up I 10 w_56) O (va_up (va_up (va_up (va_up R 13 (R 13)) 15 (R 15)) 17 (R 17)) 19 (R 19)) RO (LL ++ Y)) H := hP
              have hD : va_D A (CT cy a J (va_up I 10 w_56) O (va_up (va_up (va_up (va_up R 13 (R 13)) 15 (R 15)) 17 (R 17)) 19 (R 19)) RO (LL ++ Y)) := hD
              exact wret_i hx hb hr hlocks (J, (va_up I 10 w_56), O, (va_up (va_up (va_up (va_up R 13 (R 13)) 15 (R 15)) 17 (R 17)) 19 (R 19)), RO, LL, Y) ⟨w_56, (R 13), (R 15), (R 17), (R 19), trivial, rfl⟩ hP hD hS dX9_copy_62
        · refine wtop_v (y := .ref (a 16)) (by rw [hj_6]; exact congrArg va_rf hRO2) ?_
          refine lv_astore (lv' := [(7, .ref (a 16)), (6, .ref (a 12)), (0, .ref (a 0)), (1, .int x0), (2, .int x1), (3, .int x2), (4, .int x3), (5, .int x4)]) hx hb dX9_copy_37 hl (by decide) rfl (fun ls hl => ?_)
          refine lv_aload hx hb dX9_copy_39 (lv_at hl 1 rfl) ?_
          refine kRa_i (As := []) (rest := []) (q0 := 12) ⟨hx, hb, hml, hown, hts⟩ (t_X6_isMissing12 l D cy a _ J (va_up I 10 (I 10)) O (va_up (va_up (va_up (va_up R 13 (R 13)) 15 (R 15)) 17 (R 17)) 19 (R 19)) RO LL Y   ) (cwV 0 hts gX9_copy_X6_isMissing rfl rfl rfl (by decide +kernel) ⟨Nat.le_of_ble_eq_true rfl, Nat.le_of_ble_eq_true rfl⟩) hK hN hP hD rfl rfl rfl hl.1 rfl (Nat.le_of_ble_eq_true rfl) dX9_copy_41 ⟨Nat.le_of_ble_eq_true rfl, Nat.le_of_ble_eq_true rfl⟩ (fun r_57 hr_58 => ?_)
          obtain ⟨zb_59, rfl⟩ := hr_58
          refine lv_if_ne (tgt := 55) hx hb dX9_copy_44 (by decide) (fun c_60 => ?_) (fun c_60 => ?_)
          · replace c_60 := bI_t c_60
            refine lv_aload_n hx hb dX9_copy_55 rfl (lv_at hl 2 rfl) ?_
            refine lv_ldcw (v := (-100002)) hx hb hown hw2 dX9_copy_56 ?_
            refine kM_i (As := [.int (-100002)]) (rest := []) (q0 := 0) ⟨hx, hb, hml, hown, hts⟩ (t_X9_finding l D cy a _ J (va_up I 10 (I 10)) O (va_up (va_up (va_up (va_up R 13 (R 13)) 15 (R 15)) 17 (R 17)) 19 (R 19)) RO LL Y ((-100002) : Int32)   ) (cwV 1 hts gX9_copy_X9_finding rfl rfl rfl (by decide +kernel) ⟨Nat.le_of_ble_eq_true rfl, Nat.le_of_ble_eq_true rfl⟩) hK hN hP hD hS hA rfl rfl rfl hl.1 rfl (Nat.le_of_ble_eq_true rfl) dX9_copy_59 ⟨Nat.le_of_ble_eq_true rfl, Nat.le_of_ble_eq_true rfl⟩ (fun r_61 u H locs hw hP hD hS => ?_)
            obtain ⟨w_62, rfl, rfl⟩ := hw
            have hP : va_P D vwCl (CT cy a J (va_up I 10 w_62) O (va_up (va_up (va_up (va_up R 13 (R 13)) 15 (R 15)) 17 (R 17)) 19 (R 19)) RO (LL ++ Y)) H := hP
            have hD : va_D A (CT cy a J (va_up I 10 w_62) O (va_up (va_up (va_up (va_up R 13 (R 13)) 15 (R 15)) 17 (R 17)) 19 (R 19)) RO (LL ++ Y)) := hD
            exact wret_i hx hb hr hlocks (J, (va_up I 10 w_62), O, (va_up (va_up (va_up (va_up R 13 (R 13)) 15 (R 15)) 17 (R 17)) 19 (R 19)), RO, LL, Y) ⟨w_62, (R 13), (R 15), (R 17), (R 19), trivial, rfl⟩ hP hD hS dX9_copy_62
          · replace c_60 := bI_f c_60
            refine lv_aload hx hb dX9_copy_47 (lv_at hl 0 rfl) ?_
            refine kRa_i (As := []) (rest := []) (q0 := 16) ⟨hx, hb, hml, hown, hts⟩ (t_X6_isMissing16 l D cy a _ J (va_up I 10 (I 10)) O (va_up (va_up (va_up (va_up R 13 (R 13)) 15 (R 15)) 17 (R 17)) 19 (R 19)) RO LL Y   ) (cwV 0 hts gX9_copy_X6_isMissing rfl rfl rfl (by decide +kernel) ⟨Nat.le_of_ble_eq_true rfl, Nat.le_of_ble_eq_true rfl⟩) hK hN hP hD rfl rfl rfl hl.1 rfl (Nat.le_of_ble_eq_true rfl) dX9_copy_49 ⟨Nat.le_of_ble_eq_true rfl, Nat.le_of_ble_eq_true rfl⟩ (fun r_63 hr_64 => ?_)
            obtain ⟨zb_65, rfl⟩ := hr_64
            refine lv_if_eq (tgt := 63) hx hb dX9_copy_52 (by decide) (fun c_66 => ?_) (fun c_66 => ?_)
            · replace c_66 := bI_f c_66
              refine lv_aload hx hb dX9_copy_63 (lv_at hl 1 rfl) ?_
              refine va_get (D := D) (ci := 5) (v := .int (I 385)) (C := RX6) (T := TX6) (N := 3) hx hb hts hi6 hown hK hP 12 rfl rfl 1 (by decide) hw3 (fun _ h9 => h9) rfl dX9_copy_65 ?_
              refine lv_aload hx hb dX9_copy_68 (lv_at hl 0 rfl) ?_
              refine va_get (D := D) (ci := 5) (v := .int (I 513)) (C := RX6) (T := TX6) (N := 3) hx hb hts hi6 hown hK hP 16 rfl rfl 1 (by decide) hw3 (fun _ h9 => h9) rfl dX9_copy_70 ?_
              refine lv_icmp_eq (tgt := 83) hx hb dX9_copy_73 (by decide) (fun c_67 => ?_) (fun c_67 => ?_)
              · refine lv_aload hx hb dX9_copy_83 (lv_at hl 1 rfl) ?_
                refine lv_iload_n hx hb dX9_copy_85 rfl (lv_at hl 4 rfl) ?_
                refine lv_iload hx hb dX9_copy_86 (lv_at hl 7 rfl) ?_
                refine kRa_i (As := [.int x1, .int x4]) (rest := []) (q0 := 12) ⟨hx, hb, hml, hown, hts⟩ (t_X6_hasRange12 l D cy a _ J (va_up I 10 (I 10)) O (va_up (va_up (va_up (va_up R 13 (R 13)) 15 (R 15)) 17 (R 17)) 19 (R 19)) RO LL Y x1 x4  ) (cwV 2 hts gX9_copy_X6_hasRange rfl rfl rfl (by decide +kernel) ⟨Nat.le_of_ble_eq_true rfl, Nat.le_of_ble_eq_true rfl⟩) hK hN hP hD rfl rfl rfl hl.1 rfl (Nat.le_of_ble_eq_true rfl) dX9_copy_88 ⟨Nat.le_of_ble_eq_true rfl, Nat.le_of_ble_eq_true rfl⟩ (fun r_68 hr_69 => ?_)
                refine lv_if_eq (tgt := 106) hx hb dX9_copy_91 (by decide) (fun c_70 => ?_) (fun c_70 => ?_)
                · refine lv_aload_n hx hb dX9_copy_106 rfl (lv_at hl 2 rfl) ?_
                  refine lv_ldc (v := (-100001)) hx hb hown hw0 dX9_copy_107 ?_
                  refine kM_i (As := [.int (-100001)]) (rest := []) (q0 := 0) ⟨hx, hb, hml, hown, hts⟩ (t_X9_finding l D cy a _ J (va_up I 10 (I 10)) O (va_up (va_up (va_up (va_up R 13 (R 13)) 15 (R 15)) 17 (R 17)) 19 (R 19)) RO LL Y ((-100001) : Int32)   ) (cwV 1 hts gX9_copy_X9_finding rfl rfl rfl (by decide +kernel) ⟨Nat.le_of_ble_eq_true rfl, Nat.le_of_ble_eq_true rfl⟩) hK hN hP hD hS hA rfl rfl rfl hl.1 rfl (Nat.le_of_ble_eq_true rfl) dX9_copy_109 ⟨Nat.le_of_ble_eq_true rfl, Nat.le_of_ble_eq_true rfl⟩ (fun r_71 u H locs hw hP hD hS => ?_)
                  obtain ⟨w_72, rfl, rfl⟩ := hw
                  have hP : va_P D vwCl (CT cy a J (va_up I 10 w_72) O (va_up (va_up (va_up (va_up R 13 (R 13)) 15 (R 15)) 17 (R 17)) 19 (R 19)) RO (LL ++ Y)) H := hP
                  have hD : va_D A (CT cy a J (va_up I 10 w_72) O (va_up (va_up (va_up (va_up R 13 (R 13)) 15 (R 15)) 17 (R 17)) 19 (R 19)) RO (LL ++ Y)) := hD
                  exact wret_i hx hb hr hlocks (J, (va_up I 10 w_72), O, (va_up (va_up (va_up (va_up R 13 (R 13)) 15 (R 15)) 17 (R 17)) 19 (R 19)), RO, LL, Y) ⟨w_72, (R 13), (R 15), (R 17), (R 19), trivial, rfl⟩ hP hD hS dX9_copy_112
                · refine lv_aload hx hb dX9_copy_94 (lv_at hl 0 rfl) ?_
                  refine lv_iload hx hb dX9_copy_96 (lv_at hl 6 rfl) ?_
                  refine lv_iload hx hb dX9_copy_98 (lv_at hl 7 rfl) ?_
                  refine kRa_i (As := [.int x3, .int x4]) (rest := []) (q0 := 16) ⟨hx, hb, hml, hown, hts⟩ (t_X6_hasRange16 l D cy a _ J (va_up I 10 (I 10)) O (va_up (va_up (va_up (va_up R 13 (R 13)) 15 (R 15)) 17 (R 17)) 19 (R 19)) RO LL Y x3 x4  ) (cwV 2 hts gX9_copy_X6_hasRange rfl rfl rfl (by decide +kernel) ⟨Nat.le_of_ble_eq_true rfl, Nat.le_of_ble_eq_true rfl⟩) hK hN hP hD rfl rfl rfl hl.1 rfl (Nat.le_of_ble_eq_true rfl) dX9_copy_100 ⟨Nat.le_of_ble_eq_true rfl, Nat.le_of_ble_eq_true rfl⟩ (fun r_73 hr_74 => ?_)
                  refine lv_if_ne (tgt := 113) hx hb dX9_copy_103 (by decide) (fun c_75 => ?_) (fun c_75 => ?_)
                  · refine lv_aload hx hb dX9_copy_113 (lv_at hl 1 rfl) ?_
                    refine va_get (D := D) (ci := 5) (v := .ref (a 13)) (C := RX6) (T := TX6) (N := 3) hx hb hts hi6 hown hK hP 12 rfl rfl 0 (by decide) hw4 (fun _ h9 => h9) rfl dX9_copy_115 ?_
                    refine lv_iload_n hx hb dX9_copy_118 rfl (lv_at hl 4 rfl) ?_
                    refine lv_aload hx hb dX9_copy_119 (lv_at hl 0 rfl) ?_
                    refine va_get (D := D) (ci := 5) (v := .ref (a 17)) (C := RX6) (T := TX6) (N := 3) hx hb hts hi6 hown hK hP 16 rfl rfl 0 (by decide) hw4 (fun _ h9 => h9) rfl dX9_copy_121 ?_
                    refine lv_iload hx hb dX9_copy_124 (lv_at hl 6 rfl) ?_
                    refine lv_iload hx hb dX9_copy_126 (lv_at hl 7 rfl) ?_
                    refine va_copyi hx hb (by rw [hml]; exact hl.1.symm) hown hw5 hw6 hw7 hw8 hK hP hD hS 13 17 0 0 rfl rfl rfl rfl rfl (hr_69.2 c_70).1 (hr_74.2 c_75).1 (hr_69.2 c_70).2.1 (hr_le hM.2.2.2.2.1 (hr_69.2 c_70)) (hr_le hM.2.2.2.2.2.2.1 (hr_74.2 c_75)) (fun _ _ => rfl) (Nat.le_of_ble_eq_true rfl) (Nat.le_of_ble_eq_true rfl) dX9_copy_128 (fun H locs hP hD hS => ?_)
                    have hP : va_P D vwCl (CT cy a J (va_up I 10 (I 10)) O (va_up (va_up (va_up (va_up R 13 (R 13)) 15 (R 15)) 17 (va_cpy (R 13) (R 17) x1.toNatClampNeg x3.toNatClampNeg x4.toNatClampNeg)) 19 (R 19)) RO (LL ++ Y)) H := hP
                    have hD : va_D A (CT cy a J (va_up I 10 (I 10)) O (va_up (va_up (va_up (va_up R 13 (R 13)) 15 (R 15)) 17 (va_cpy (R 13) (R 17) x1.toNatClampNeg x3.toNatClampNeg x4.toNatClampNeg)) 19 (R 19)) RO (LL ++ Y)) := hD
                    refine lv_iload hx hb dX9_copy_131 (lv_at hl 7 rfl) ?_
                    exact wret_i hx hb hr hlocks (J, (va_up I 10 (I 10)), O, (va_up (va_up (va_up (va_up R 13 (R 13)) 15 (R 15)) 17 (va_cpy (R 13) (R 17) x1.toNatClampNeg x3.toNatClampNeg x4.toNatClampNeg)) 19 (R 19)), RO, LL, Y) ⟨(I 10), (R 13), (R 15), (va_cpy (R 13) (R 17) x1.toNatClampNeg x3.toNatClampNeg x4.toNatClampNeg), (R 19), trivial, rfl⟩ hP hD hS dX9_copy_133
                  · refine lv_aload_n hx hb dX9_copy_106 rfl (lv_at hl 2 rfl) ?_
                    refine lv_ldc (v := (-100001)) hx hb hown hw0 dX9_copy_107 ?_
                    refine kM_i (As := [.int (-100001)]) (rest := []) (q0 := 0) ⟨hx, hb, hml, hown, hts⟩ (t_X9_finding l D cy a _ J (va_up I 10 (I 10)) O (va_up (va_up (va_up (va_up R 13 (R 13)) 15 (R 15)) 17 (R 17)) 19 (R 19)) RO LL Y ((-100001) : Int32)   ) (cwV 1 hts gX9_copy_X9_finding rfl rfl rfl (by decide +kernel) ⟨Nat.le_of_ble_eq_true rfl, Nat.le_of_ble_eq_true rfl⟩) hK hN hP hD hS hA rfl rfl rfl hl.1 rfl (Nat.le_of_ble_eq_true rfl) dX9_copy_109 ⟨Nat.le_of_ble_eq_true rfl, Nat.le_of_ble_eq_true rfl⟩ (fun r_76 u H locs hw hP hD hS => ?_)
                    obtain ⟨w_77, rfl, rfl⟩ := hw
                    have hP : va_P D vwCl (CT cy a J (va_up I 10 w_77) O (va_up (va_up (va_up (va_up R 13 (R 13)) 15 (R 15)) 17 (R 17)) 19 (R 19)) RO (LL ++ Y)) H := hP
                    have hD : va_D A (CT cy a J (va_up I 10 w_77) O (va_up (va_up (va_up (va_up R 13 (R 13)) 15 (R 15)) 17 (R 17)) 19 (R 19)) RO (LL ++ Y)) := hD
                    exact wret_i hx hb hr hlocks (J, (va_up I 10 w_77), O, (va_up (va_up (va_up (va_up R 13 (R 13)) 15 (R 15)) 17 (R 17)) 19 (R 19)), RO, LL, Y) ⟨w_77, (R 13), (R 15), (R 17), (R 19), trivial, rfl⟩ hP hD hS dX9_copy_112
              · refine lv_aload_n hx hb dX9_copy_76 rfl (lv_at hl 2 rfl) ?_
                refine lv_ldc (v := (-100004)) hx hb hown hw9 dX9_copy_77 ?_
                refine kM_i (As := [.int (-100004)]) (rest := []) (q0 := 0) ⟨hx, hb, hml, hown, hts⟩ (t_X9_finding l D cy a _ J (va_up I 10 (I 10)) O (va_up (va_up (va_up (va_up R 13 (R 13)) 15 (R 15)) 17 (R 17)) 19 (R 19)) RO LL Y ((-100004) : Int32)   ) (cwV 1 hts gX9_copy_X9_finding rfl rfl rfl (by decide +kernel) ⟨Nat.le_of_ble_eq_true rfl, Nat.le_of_ble_eq_true rfl⟩) hK hN hP hD hS hA rfl rfl rfl hl.1 rfl (Nat.le_of_ble_eq_true rfl) dX9_copy_79 ⟨Nat.le_of_ble_eq_true rfl, Nat.le_of_ble_eq_true rfl⟩ (fun r_78 u H locs hw hP hD hS => ?_)
                obtain ⟨w_79, rfl, rfl⟩ := hw
                have hP : va_P D vwCl (CT cy a J (va_up I 10 w_79) O (va_up (va_up (va_up (va_up R 13 (R 13)) 15 (R 15)) 17 (R 17)) 19 (R 19)) RO (LL ++ Y)) H := hP
                have hD : va_D A (CT cy a J (va_up I 10 w_79) O (va_up (va_up (va_up (va_up R 13 (R 13)) 15 (R 15)) 17 (R 17)) 19 (R 19)) RO (LL ++ Y)) := hD
                exact wret_i hx hb hr hlocks (J, (va_up I 10 w_79), O, (va_up (va_up (va_up (va_up R 13 (R 13)) 15 (R 15)) 17 (R 17)) 19 (R 19)), RO, LL, Y) ⟨w_79, (R 13), (R 15), (R 17), (R 19), trivial, rfl⟩ hP hD hS dX9_copy_82
            · replace c_66 := bI_t c_66
              refine lv_aload_n hx hb dX9_copy_55 rfl (lv_at hl 2 rfl) ?_
              refine lv_ldcw (v := (-100002)) hx hb hown hw2 dX9_copy_56 ?_
              refine kM_i (As := [.int (-100002)]) (rest := []) (q0 := 0) ⟨hx, hb, hml, hown, hts⟩ (t_X9_finding l D cy a _ J (va_up I 10 (I 10)) O (va_up (va_up (va_up (va_up R 13 (R 13)) 15 (R 15)) 17 (R 17)) 19 (R 19)) RO LL Y ((-100002) : Int32)   ) (cwV 1 hts gX9_copy_X9_finding rfl rfl rfl (by decide +kernel) ⟨Nat.le_of_ble_eq_true rfl, Nat.le_of_ble_eq_true rfl⟩) hK hN hP hD hS hA rfl rfl rfl hl.1 rfl (Nat.le_of_ble_eq_true rfl) dX9_copy_59 ⟨Nat.le_of_ble_eq_true rfl, Nat.le_of_ble_eq_true rfl⟩ (fun r_80 u H locs hw hP hD hS => ?_)
              obtain ⟨w_81, rfl, rfl⟩ := hw
              have hP : va_P D vwCl (CT cy a J (va_up I 10 w_81) O (va_up (va_up (va_up (va_up R 13 (R 13)) 15 (R 15)) 17 (R 17)) 19 (R 19)) RO (LL ++ Y)) H := hP
              have hD : va_D A (CT cy a J (va_up I 10 w_81) O (va_up (va_up (va_up (va_up R 13 (R 13)) 15 (R 15)) 17 (R 17)) 19 (R 19)) RO (LL ++ Y)) := hD
              exact wret_i hx hb hr hlocks (J, (va_up I 10 w_81), O, (va_up (va_up (va_up (va_up R 13 (R 13)) 15 (R 15)) 17 (R 17)) 19 (R 19)), RO, LL, Y) ⟨w_81, (R 13), (R 15), (R 17), (R 19), trivial, rfl⟩ hP hD hS dX9_copy_62
        · refine wtop_v (y := .ref (a 18)) (by rw [hj_6]; exact congrArg va_rf hRO3) ?_
          refine lv_astore (lv' := [(7, .ref (a 18)), (6, .ref (a 12)), (0, .ref (a 0)), (1, .int x0), (2, .int x1), (3, .int x2), (4, .int x3), (5, .int x4)]) hx hb dX9_copy_37 hl (by decide) rfl (fun ls hl => ?_)
          refine lv_aload hx hb dX9_copy_39 (lv_at hl 1 rfl) ?_
          refine kRa_i (As := []) (rest := []) (q0 := 12) ⟨hx, hb, hml, hown, hts⟩ (t_X6_isMissing12 l D cy a _ J (va_up I 10 (I 10)) O (va_up (va_up (va_up (va_up R 13 (R 13)) 15 (R 15)) 17 (R 17)) 19 (R 19)) RO LL Y   ) (cwV 0 hts gX9_copy_X6_isMissing rfl rfl rfl (by decide +kernel) ⟨Nat.le_of_ble_eq_true rfl, Nat.le_of_ble_eq_true rfl⟩) hK hN hP hD rfl rfl rfl hl.1 rfl (Nat.le_of_ble_eq_true rfl) dX9_copy_41 ⟨Nat.le_of_ble_eq_true rfl, Nat.le_of_ble_eq_true rfl⟩ (fun r_82 hr_83 => ?_)
          obtain ⟨zb_84, rfl⟩ := hr_83
          refine lv_if_ne (tgt := 55) hx hb dX9_copy_44 (by decide) (fun c_85 => ?_) (fun c_85 => ?_)
          · replace c_85 := bI_t c_85
            refine lv_aload_n hx hb dX9_copy_55 rfl (lv_at hl 2 rfl) ?_
            refine lv_ldcw (v := (-100002)) hx hb hown hw2 dX9_copy_56 ?_
            refine kM_i (As := [.int (-100002)]) (rest := []) (q0 := 0) ⟨hx, hb, hml, hown, hts⟩ (t_X9_finding l D cy a _ J (va_up I 10 (I 10)) O (va_up (va_up (va_up (va_up R 13 (R 13)) 15 (R 15)) 17 (R 17)) 19 (R 19)) RO LL Y ((-100002) : Int32)   ) (cwV 1 hts gX9_copy_X9_finding rfl rfl rfl (by decide +kernel) ⟨Nat.le_of_ble_eq_true rfl, Nat.le_of_ble_eq_true rfl⟩) hK hN hP hD hS hA rfl rfl rfl hl.1 rfl (Nat.le_of_ble_eq_true rfl) dX9_copy_59 ⟨Nat.le_of_ble_eq_true rfl, Nat.le_of_ble_eq_true rfl⟩ (fun r_86 u H locs hw hP hD hS => ?_)
            obtain ⟨w_87, rfl, rfl⟩ := hw
            have hP : va_P D vwCl (CT cy a J (va_up I 10 w_87) O (va_up (va_up (va_up (va_up R 13 (R 13)) 15 (R 15)) 17 (R 17)) 19 (R 19)) RO (LL ++ Y)) H := hP
            have hD : va_D A (CT cy a J (va_up I 10 w_87) O (va_up (va_up (va_up (va_up R 13 (R 13)) 15 (R 15)) 17 (R 17)) 19 (R 19)) RO (LL ++ Y)) := hD
            exact wret_i hx hb hr hlocks (J, (va_up I 10 w_87), O, (va_up (va_up (va_up (va_up R 13 (R 13)) 15 (R 15)) 17 (R 17)) 19 (R 19)), RO, LL, Y) ⟨w_87, (R 13), (R 15), (R 17), (R 19), trivial, rfl⟩ hP hD hS dX9_copy_62
          · replace c_85 := bI_f c_85
            refine lv_aload hx hb dX9_copy_47 (lv_at hl 0 rfl) ?_
            refine kRa_i (As := []) (rest := []) (q0 := 18) ⟨hx, hb, hml, hown, hts⟩ (t_X6_isMissing18 l D cy a _ J (va_up I 10 (I 10)) O (va_up (va_up (va_up (va_up R 13 (R 13)) 15 (R 15)) 17 (R 17)) 19 (R 19)) RO LL Y   ) (cwV 0 hts gX9_copy_X6_isMissing rfl rfl rfl (by decide +kernel) ⟨Nat.le_of_ble_eq_true rfl, Nat.le_of_ble_eq_true rfl⟩) hK hN hP hD rfl rfl rfl hl.1 rfl (Nat.le_of_ble_eq_true rfl) dX9_copy_49 ⟨Nat.le_of_ble_eq_true rfl, Nat.le_of_ble_eq_true rfl⟩ (fun r_88 hr_89 => ?_)
            obtain ⟨zb_90, rfl⟩ := hr_89
            refine lv_if_eq (tgt := 63) hx hb dX9_copy_52 (by decide) (fun c_91 => ?_) (fun c_91 => ?_)
            · replace c_91 := bI_f c_91
              refine lv_aload hx hb dX9_copy_63 (lv_at hl 1 rfl) ?_
              refine va_get (D := D) (ci := 5) (v := .int (I 385)) (C := RX6) (T := TX6) (N := 3) hx hb hts hi6 hown hK hP 12 rfl rfl 1 (by decide) hw3 (fun _ h9 => h9) rfl dX9_copy_65 ?_
              refine lv_aload hx hb dX9_copy_68 (lv_at hl 0 rfl) ?_
              refine va_get (D := D) (ci := 5) (v := .int (I 577)) (C := RX6) (T := TX6) (N := 3) hx hb hts hi6 hown hK hP 18 rfl rfl 1 (by decide) hw3 (fun _ h9 => h9) rfl dX9_copy_70 ?_
              refine lv_icmp_eq (tgt := 83) hx hb dX9_copy_73 (by decide) (fun c_92 => ?_) (fun c_92 => ?_)
              · refine lv_aload hx hb dX9_copy_83 (lv_at hl 1 rfl) ?_
                refine lv_iload_n hx hb dX9_copy_85 rfl (lv_at hl 4 rfl) ?_
                refine lv_iload hx hb dX9_copy_86 (lv_at hl 7 rfl) ?_
                refine kRa_i (As := [.int x1, .int x4]) (rest := []) (q0 := 12) ⟨hx, hb, hml, hown, hts⟩ (t_X6_hasRange12 l D cy a _ J (va_up I 10 (I 10)) O (va_up (va_up (va_up (va_up R 13 (R 13)) 15 (R 15)) 17 (R 17)) 19 (R 19)) RO LL Y x1 x4  ) (cwV 2 hts gX9_copy_X6_hasRange rfl rfl rfl (by decide +kernel) ⟨Nat.le_of_ble_eq_true rfl, Nat.le_of_ble_eq_true rfl⟩) hK hN hP hD rfl rfl rfl hl.1 rfl (Nat.le_of_ble_eq_true rfl) dX9_copy_88 ⟨Nat.le_of_ble_eq_true rfl, Nat.le_of_ble_eq_true rfl⟩ (fun r_93 hr_94 => ?_)
                refine lv_if_eq (tgt := 106) hx hb dX9_copy_91 (by decide) (fun c_95 => ?_) (fun c_95 => ?_)
                · refine lv_aload_n hx hb dX9_copy_106 rfl (lv_at hl 2 rfl) ?_
                  refine lv_ldc (v := (-100001)) hx hb hown hw0 dX9_copy_107 ?_
                  refine kM_i (As := [.int (-100001)]) (rest := []) (q0 := 0) ⟨hx, hb, hml, hown, hts⟩ (t_X9_finding l D cy a _ J (va_up I 10 (I 10)) O (va_up (va_up (va_up (va_up R 13 (R 13)) 15 (R 15)) 17 (R 17)) 19 (R 19)) RO LL Y ((-100001) : Int32)   ) (cwV 1 hts gX9_copy_X9_finding rfl rfl rfl (by decide +kernel) ⟨Nat.le_of_ble_eq_true rfl, Nat.le_of_ble_eq_true rfl⟩) hK hN hP hD hS hA rfl rfl rfl hl.1 rfl (Nat.le_of_ble_eq_true rfl) dX9_copy_109 ⟨Nat.le_of_ble_eq_true rfl, Nat.le_of_ble_eq_true rfl⟩ (fun r_96 u H locs hw hP hD hS => ?_)
                  obtain ⟨w_97, rfl, rfl⟩ := hw
                  have hP : va_P D vwCl (CT cy a J (va_up I 10 w_97) O (va_up (va_up (va_up (va_up R 13 (R 13)) 15 (R 15)) 17 (R 17)) 19 (R 19)) RO (LL ++ Y)) H := hP
                  have hD : va_D A (CT cy a J (va_up I 10 w_97) O (va_up (va_up (va_up (va_up R 13 (R 13)) 15 (R 15)) 17 (R 17)) 19 (R 19)) RO (LL ++ Y)) := hD
                  exact wret_i hx hb hr hlocks (J, (va_up I 10 w_97), O, (va_up (va_up (va_up (va_up R 13 (R 13)) 15 (R 15)) 17 (R 17)) 19 (R 19)), RO, LL, Y) ⟨w_97, (R 13), (R 15), (R 17), (R 19), trivial, rfl⟩ hP hD hS dX9_copy_112
                · refine lv_aload hx hb dX9_copy_94 (lv_at hl 0 rfl) ?_
                  refine lv_iload hx hb dX9_copy_96 (lv_at hl 6 rfl) ?_
                  refine lv_iload hx hb dX9_copy_98 (lv_at hl 7 rfl) ?_
                  refine kRa_i (As := [.int x3, .int x4]) (rest := []) (q0 := 18) ⟨hx, hb, hml, hown, hts⟩ (t_X6_hasRange18 l D cy a _ J (va_up I 10 (I 10)) O (va_up (va_up (va_up (va_up R 13 (R 13)) 15 (R 15)) 17 (R 17)) 19 (R 19)) RO LL Y x3 x4  ) (cwV 2 hts gX9_copy_X6_hasRange rfl rfl rfl (by decide +kernel) ⟨Nat.le_of_ble_eq_true rfl, Nat.le_of_ble_eq_true rfl⟩) hK hN hP hD rfl rfl rfl hl.1 rfl (Nat.le_of_ble_eq_true rfl) dX9_copy_100 ⟨Nat.le_of_ble_eq_true rfl, Nat.le_of_ble_eq_true rfl⟩ (fun r_98 hr_99 => ?_)
                  refine lv_if_ne (tgt := 113) hx hb dX9_copy_103 (by decide) (fun c_100 => ?_) (fun c_100 => ?_)
                  · refine lv_aload hx hb dX9_copy_113 (lv_at hl 1 rfl) ?_
                    refine va_get (D := D) (ci := 5) (v := .ref (a 13)) (C := RX6) (T := TX6) (N := 3) hx hb hts hi6 hown hK hP 12 rfl rfl 0 (by decide) hw4 (fun _ h9 => h9) rfl dX9_copy_115 ?_
                    refine lv_iload_n hx hb dX9_copy_118 rfl (lv_at hl 4 rfl) ?_
                    refine lv_aload hx hb dX9_copy_119 (lv_at hl 0 rfl) ?_
                    refine va_get (D := D) (ci := 5) (v := .ref (a 19)) (C := RX6) (T := TX6) (N := 3) hx hb hts hi6 hown hK hP 18 rfl rfl 0 (by decide) hw4 (fun _ h9 => h9) rfl dX9_copy_121 ?_
                    refine lv_iload hx hb dX9_copy_124 (lv_at hl 6 rfl) ?_
                    refine lv_iload hx hb dX9_copy_126 (lv_at hl 7 rfl) ?_
                    refine va_copyi hx hb (by rw [hml]; exact hl.1.symm) hown hw5 hw6 hw7 hw8 hK hP hD hS 13 19 0 0 rfl rfl rfl rfl rfl (hr_94.2 c_95).1 (hr_99.2 c_100).1 (hr_94.2 c_95).2.1 (hr_le hM.2.2.2.2.1 (hr_94.2 c_95)) (hr_le hM.2.2.2.2.2.2.2.1 (hr_99.2 c_100)) (fun _ _ => rfl) (Nat.le_of_ble_eq_true rfl) (Nat.le_of_ble_eq_true rfl) dX9_copy_128 (fun H locs hP hD hS => ?_)
                    have hP : va_P D vwCl (CT cy a J (va_up I 10 (I 10)) O (va_up (va_up (va_up (va_up R 13 (R 13)) 15 (R 15)) 17 (R 17)) 19 (va_cpy (R 13) (R 19) x1.toNatClampNeg x3.toNatClampNeg x4.toNatClampNeg)) RO (LL ++ Y)) H := hP
                    have hD : va_D A (CT cy a J (va_up I 10 (I 10)) O (va_up (va_up (va_up (va_up R 13 (R 13)) 15 (R 15)) 17 (R 17)) 19 (va_cpy (R 13) (R 19) x1.toNatClampNeg x3.toNatClampNeg x4.toNatClampNeg)) RO (LL ++ Y)) := hD
                    refine lv_iload hx hb dX9_copy_131 (lv_at hl 7 rfl) ?_
                    exact wret_i hx hb hr hlocks (J, (va_up I 10 (I 10)), O, (va_up (va_up (va_up (va_up R 13 (R 13)) 15 (R 15)) 17 (R 17)) 19 (va_cpy (R 13) (R 19) x1.toNatClampNeg x3.toNatClampNeg x4.toNatClampNeg)), RO, LL, Y) ⟨(I 10), (R 13), (R 15), (R 17), (va_cpy (R 13) (R 19) x1.toNatClampNeg x3.toNatClampNeg x4.toNatClampNeg), trivial, rfl⟩ hP hD hS dX9_copy_133
                  · refine lv_aload_n hx hb dX9_copy_106 rfl (lv_at hl 2 rfl) ?_
                    refine lv_ldc (v := (-100001)) hx hb hown hw0 dX9_copy_107 ?_
                    refine kM_i (As := [.int (-100001)]) (rest := []) (q0 := 0) ⟨hx, hb, hml, hown, hts⟩ (t_X9_finding l D cy a _ J (va_up I 10 (I 10)) O (va_up (va_up (va_up (va_up R 13 (R 13)) 15 (R 15)) 17 (R 17)) 19 (R 19)) RO LL Y ((-100001) : Int32)   ) (cwV 1 hts gX9_copy_X9_finding rfl rfl rfl (by decide +kernel) ⟨Nat.le_of_ble_eq_true rfl, Nat.le_of_ble_eq_true rfl⟩) hK hN hP hD hS hA rfl rfl rfl hl.1 rfl (Nat.le_of_ble_eq_true rfl) dX9_copy_109 ⟨Nat.le_of_ble_eq_true rfl, Nat.le_of_ble_eq_true rfl⟩ (fun r_101 u H locs hw hP hD hS => ?_)
                    obtain ⟨w_102, rfl, rfl⟩ := hw
                    have hP : va_P D vwCl (CT cy a J (va_up I 10 w_102) O (va_up (va_up (va_up (va_up R 13 (R 13)) 15 (R 15)) 17 (R 17)) 19 (R 19)) RO (LL ++ Y)) H := hP
                    have hD : va_D A (CT cy a J (va_up I 10 w_102) O (va_up (va_up (va_up (va_up R 13 (R 13)) 15 (R 15)) 17 (R 17)) 19 (R 19)) RO (LL ++ Y)) := hD
                    exact wret_i hx hb hr hlocks (J, (va_up I 10 w_102), O, (va_up (va_up (va_up (va_up R 13 (R 13)) 15 (R 15)) 17 (R 17)) 19 (R 19)), RO, LL, Y) ⟨w_102, (R 13), (R 15), (R 17), (R 19), trivial, rfl⟩ hP hD hS dX9_copy_112
              · refine lv_aload_n hx hb dX9_copy_76 rfl (lv_at hl 2 rfl) ?_
                refine lv_ldc (v := (-100004)) hx hb hown hw9 dX9_copy_77 ?_
                refine kM_i (As := [.int (-100004)]) (rest := []) (q0 := 0) ⟨hx, hb, hml, hown, hts⟩ (t_X9_finding l D cy a _ J (va_up I 10 (I 10)) O (va_up (va_up (va_up (va_up R 13 (R 13)) 15 (R 15)) 17 (R 17)) 19 (R 19)) RO LL Y ((-100004) : Int32)   ) (cwV 1 hts gX9_copy_X9_finding rfl rfl rfl (by decide +kernel) ⟨Nat.le_of_ble_eq_true rfl, Nat.le_of_ble_eq_true rfl⟩) hK hN hP hD hS hA rfl rfl rfl hl.1 rfl (Nat.le_of_ble_eq_true rfl) dX9_copy_79 ⟨Nat.le_of_ble_eq_true rfl, Nat.le_of_ble_eq_true rfl⟩ (fun r_103 u H locs hw hP hD hS => ?_)
                obtain ⟨w_104, rfl, rfl⟩ := hw
                have hP : va_P D vwCl (CT cy a J (va_up I 10 w_104) O (va_up (va_up (va_up (va_up R 13 (R 13)) 15 (R 15)) 17 (R 17)) 19 (R 19)) RO (LL ++ Y)) H := hP
                have hD : va_D A (CT cy a J (va_up I 10 w_104) O (va_up (va_up (va_up (va_up R 13 (R 13)) 15 (R 15)) 17 (R 17)) 19 (R 19)) RO (LL ++ Y)) := hD
                exact wret_i hx hb hr hlocks (J, (va_up I 10 w_104), O, (va_up (va_up (va_up (va_up R 13 (R 13)) 15 (R 15)) 17 (R 17)) 19 (R 19)), RO, LL, Y) ⟨w_104, (R 13), (R 15), (R 17), (R 19), trivial, rfl⟩ hP hD hS dX9_copy_82
            · replace c_91 := bI_t c_91
              refine lv_aload_n hx hb dX9_copy_55 rfl (lv_at hl 2 rfl) ?_
              refine lv_ldcw (v := (-100002)) hx hb hown hw2 dX9_copy_56 ?_
              refine kM_i (As := [.int (-100002)]) (rest := []) (q0 := 0) ⟨hx, hb, hml, hown, hts⟩ (t_X9_finding l D cy a _ J (va_up I 10 (I 10)) O (va_up (va_up (va_up (va_up R 13 (R 13)) 15 (R 15)) 17 (R 17)) 19 (R 19)) RO LL Y ((-100002) : Int32)   ) (cwV 1 hts gX9_copy_X9_finding rfl rfl rfl (by decide +kernel) ⟨Nat.le_of_ble_eq_true rfl, Nat.le_of_ble_eq_true rfl⟩) hK hN hP hD hS hA rfl rfl rfl hl.1 rfl (Nat.le_of_ble_eq_true rfl) dX9_copy_59 ⟨Nat.le_of_ble_eq_true rfl, Nat.le_of_ble_eq_true rfl⟩ (fun r_105 u H locs hw hP hD hS => ?_)
              obtain ⟨w_106, rfl, rfl⟩ := hw
              have hP : va_P D vwCl (CT cy a J (va_up I 10 w_106) O (va_up (va_up (va_up (va_up R 13 (R 13)) 15 (R 15)) 17 (R 17)) 19 (R 19)) RO (LL ++ Y)) H := hP
              have hD : va_D A (CT cy a J (va_up I 10 w_106) O (va_up (va_up (va_up (va_up R 13 (R 13)) 15 (R 15)) 17 (R 17)) 19 (R 19)) RO (LL ++ Y)) := hD
              exact wret_i hx hb hr hlocks (J, (va_up I 10 w_106), O, (va_up (va_up (va_up (va_up R 13 (R 13)) 15 (R 15)) 17 (R 17)) 19 (R 19)), RO, LL, Y) ⟨w_106, (R 13), (R 15), (R 17), (R 19), trivial, rfl⟩ hP hD hS dX9_copy_62
      · refine wtop_v (y := .ref (a 14)) (by rw [hj_5]; exact congrArg va_rf hRO1) ?_
        refine lv_astore (lv' := [(6, .ref (a 14)), (0, .ref (a 0)), (1, .int x0), (2, .int x1), (3, .int x2), (4, .int x3), (5, .int x4)]) hx hb dX9_copy_29 hl (by decide) rfl (fun ls hl => ?_)
        refine lv_aload_n hx hb dX9_copy_31 rfl (lv_at hl 1 rfl) ?_
        refine va_get (D := D) (ci := 8) (v := .ref (a 1)) (C := RX9) (T := TX9) (N := 11) hx hb hts hi9 hown hK hP 0 rfl rfl 0 (by decide) hw1 (fun _ h9 => h9) rfl dX9_copy_32 ?_
        refine lv_iload_n hx hb dX9_copy_35 rfl (lv_at hl 4 rfl) ?_
        refine va_aldq hx hb hK hP 1 4 rfl rfl (within_in4 c_4) dX9_copy_36 ?_
        rcases in4 (within_in4 c_4) with hj_107 | hj_107 | hj_107 | hj_107
        · refine wtop_v (y := .ref (a 12)) (by rw [hj_107]; exact congrArg va_rf hRO0) ?_
          refine lv_astore (lv' := [(7, .ref (a 12)), (6, .ref (a 14)), (0, .ref (a 0)), (1, .int x0), (2, .int x1), (3, .int x2), (4, .int x3), (5, .int x4)]) hx hb dX9_copy_37 hl (by decide) rfl (fun ls hl => ?_)
          refine lv_aload hx hb dX9_copy_39 (lv_at hl 1 rfl) ?_
          refine kRa_i (As := []) (rest := []) (q0 := 14) ⟨hx, hb, hml, hown, hts⟩ (t_X6_isMissing14 l D cy a _ J (va_up I 10 (I 10)) O (va_up (va_up (va_up (va_up R 13 (R 13)) 15 (R 15)) 17 (R 17)) 19 (R 19)) RO LL Y   ) (cwV 0 hts gX9_copy_X6_isMissing rfl rfl rfl (by decide +kernel) ⟨Nat.le_of_ble_eq_true rfl, Nat.le_of_ble_eq_true rfl⟩) hK hN hP hD rfl rfl rfl hl.1 rfl (Nat.le_of_ble_eq_true rfl) dX9_copy_41 ⟨Nat.le_of_ble_eq_true rfl, Nat.le_of_ble_eq_true rfl⟩ (fun r_108 hr_109 => ?_)
          obtain ⟨zb_110, rfl⟩ := hr_109
          refine lv_if_ne (tgt := 55) hx hb dX9_copy_44 (by decide) (fun c_111 => ?_) (fun c_111 => ?_)
          · replace c_111 := bI_t c_111
            refine lv_aload_n hx hb dX9_copy_55 rfl (lv_at hl 2 rfl) ?_
            refine lv_ldcw (v := (-100002)) hx hb hown hw2 dX9_copy_56 ?_
            refine kM_i (As := [.int (-100002)]) (rest := []) (q0 := 0) ⟨hx, hb, hml, hown, hts⟩ (t_X9_finding l D cy a _ J (va_up I 10 (I 10)) O (va_up (va_up (va_up (va_up R 13 (R 13)) 15 (R 15)) 17 (R 17)) 19 (R 19)) RO LL Y ((-100002) : Int32)   ) (cwV 1 hts gX9_copy_X9_finding rfl rfl rfl (by decide +kernel) ⟨Nat.le_of_ble_eq_true rfl, Nat.le_of_ble_eq_true rfl⟩) hK hN hP hD hS hA rfl rfl rfl hl.1 rfl (Nat.le_of_ble_eq_true rfl) dX9_copy_59 ⟨Nat.le_of_ble_eq_true rfl, Nat.le_of_ble_eq_true rfl⟩ (fun r_112 u H locs hw hP hD hS => ?_)
            obtain ⟨w_113, rfl, rfl⟩ := hw
            have hP : va_P D vwCl (CT cy a J (va_up I 10 w_113) O (va_up (va_up (va_up (va_up R 13 (R 13)) 15 (R 15)) 17 (R 17)) 19 (R 19)) RO (LL ++ Y)) H := hP
            have hD : va_D A (CT cy a J (va_up I 10 w_113) O (va_up (va_up (va_up (va_up R 13 (R 13)) 15 (R 15)) 17 (R 17)) 19 (R 19)) RO (LL ++ Y)) := hD
            exact wret_i hx hb hr hlocks (J, (va_up I 10 w_113), O, (va_up (va_up (va_up (va_up R 13 (R 13)) 15 (R 15)) 17 (R 17)) 19 (R 19)), RO, LL, Y) ⟨w_113, (R 13), (R 15), (R 17), (R 19), trivial, rfl⟩ hP hD hS dX9_copy_62
          · replace c_111 := bI_f c_111
            refine lv_aload hx hb dX9_copy_47 (lv_at hl 0 rfl) ?_
            refine kRa_i (As := []) (rest := []) (q0 := 12) ⟨hx, hb, hml, hown, hts⟩ (t_X6_isMissing12 l D cy a _ J (va_up I 10 (I 10)) O (va_up (va_up (va_up (va_up R 13 (R 13)) 15 (R 15)) 17 (R 17)) 19 (R 19)) RO LL Y   ) (cwV 0 hts gX9_copy_X6_isMissing rfl rfl rfl (by decide +kernel) ⟨Nat.le_of_ble_eq_true rfl, Nat.le_of_ble_eq_true rfl⟩) hK hN hP hD rfl rfl rfl hl.1 rfl (Nat.le_of_ble_eq_true rfl) dX9_copy_49 ⟨Nat.le_of_ble_eq_true rfl, Nat.le_of_ble_eq_true rfl⟩ (fun r_114 hr_115 => ?_)
            obtain ⟨zb_116, rfl⟩ := hr_115
            refine lv_if_eq (tgt := 63) hx hb dX9_copy_52 (by decide) (fun c_117 => ?_) (fun c_117 => ?_)
            · replace c_117 := bI_f c_117
              refine lv_aload hx hb dX9_copy_63 (lv_at hl 1 rfl) ?_
              refine va_get (D := D) (ci := 5) (v := .int (I 449)) (C := RX6) (T := TX6) (N := 3) hx hb hts hi6 hown hK hP 14 rfl rfl 1 (by decide) hw3 (fun _ h9 => h9) rfl dX9_copy_65 ?_
              refine lv_aload hx hb dX9_copy_68 (lv_at hl 0 rfl) ?_
              refine va_get (D := D) (ci := 5) (v := .int (I 385)) (C := RX6) (T := TX6) (N := 3) hx hb hts hi6 hown hK hP 12 rfl rfl 1 (by decide) hw3 (fun _ h9 => h9) rfl dX9_copy_70 ?_
              refine lv_icmp_eq (tgt := 83) hx hb dX9_copy_73 (by decide) (fun c_118 => ?_) (fun c_118 => ?_)
              · refine lv_aload hx hb dX9_copy_83 (lv_at hl 1 rfl) ?_
                refine lv_iload_n hx hb dX9_copy_85 rfl (lv_at hl 4 rfl) ?_
                refine lv_iload hx hb dX9_copy_86 (lv_at hl 7 rfl) ?_
                refine kRa_i (As := [.int x1, .int x4]) (rest := []) (q0 := 14) ⟨hx, hb, hml, hown, hts⟩ (t_X6_hasRange14 l D cy a _ J (va_up I 10 (I 10)) O (va_up (va_up (va_up (va_up R 13 (R 13)) 15 (R 15)) 17 (R 17)) 19 (R 19)) RO LL Y x1 x4  ) (cwV 2 hts gX9_copy_X6_hasRange rfl rfl rfl (by decide +kernel) ⟨Nat.le_of_ble_eq_true rfl, Nat.le_of_ble_eq_true rfl⟩) hK hN hP hD rfl rfl rfl hl.1 rfl (Nat.le_of_ble_eq_true rfl) dX9_copy_88 ⟨Nat.le_of_ble_eq_true rfl, Nat.le_of_ble_eq_true rfl⟩ (fun r_119 hr_120 => ?_)
                refine lv_if_eq (tgt := 106) hx hb dX9_copy_91 (by decide) (fun c_121 => ?_) (fun c_121 => ?_)
                · refine lv_aload_n hx hb dX9_copy_106 rfl (lv_at hl 2 rfl) ?_
                  refine lv_ldc (v := (-100001)) hx hb hown hw0 dX9_copy_107 ?_
                  refine kM_i (As := [.int (-100001)]) (rest := []) (q0 := 0) ⟨hx, hb, hml, hown, hts⟩ (t_X9_finding l D cy a _ J (va_up I 10 (I 10)) O (va_up (va_up (va_up (va_up R 13 (R 13)) 15 (R 15)) 17 (R 17)) 19 (R 19)) RO LL Y ((-100001) : Int32)   ) (cwV 1 hts gX9_copy_X9_finding rfl rfl rfl (by decide +kernel) ⟨Nat.le_of_ble_eq_true rfl, Nat.le_of_ble_eq_true rfl⟩) hK hN hP hD hS hA rfl rfl rfl hl.1 rfl (Nat.le_of_ble_eq_true rfl) dX9_copy_109 ⟨Nat.le_of_ble_eq_true rfl, Nat.le_of_ble_eq_true rfl⟩ (fun r_122 u H locs hw hP hD hS => ?_)
                  obtain ⟨w_123, rfl, rfl⟩ := hw
                  have hP : va_P D vwCl (CT cy a J (va_up I 10 w_123) O (va_up (va_up (va_up (va_up R 13 (R 13)) 15 (R 15)) 17 (R 17)) 19 (R 19)) RO (LL ++ Y)) H := hP
                  have hD : va_D A (CT cy a J (va_up I 10 w_123) O (va_up (va_up (va_up (va_up R 13 (R 13)) 15 (R 15)) 17 (R 17)) 19 (R 19)) RO (LL ++ Y)) := hD
                  exact wret_i hx hb hr hlocks (J, (va_up I 10 w_123), O, (va_up (va_up (va_up (va_up R 13 (R 13)) 15 (R 15)) 17 (R 17)) 19 (R 19)), RO, LL, Y) ⟨w_123, (R 13), (R 15), (R 17), (R 19), trivial, rfl⟩ hP hD hS dX9_copy_112
                · refine lv_aload hx hb dX9_copy_94 (lv_at hl 0 rfl) ?_
                  refine lv_iload hx hb dX9_copy_96 (lv_at hl 6 rfl) ?_
                  refine lv_iload hx hb dX9_copy_98 (lv_at hl 7 rfl) ?_
                  refine kRa_i (As := [.int x3, .int x4]) (rest := []) (q0 := 12) ⟨hx, hb, hml, hown, hts⟩ (t_X6_hasRange12 l D cy a _ J (va_up I 10 (I 10)) O (va_up (va_up (va_up (va_up R 13 (R 13)) 15 (R 15)) 17 (R 17)) 19 (R 19)) RO LL Y x3 x4  ) (cwV 2 hts gX9_copy_X6_hasRange rfl rfl rfl (by decide +kernel) ⟨Nat.le_of_ble_eq_true rfl, Nat.le_of_ble_eq_true rfl⟩) hK hN hP hD rfl rfl rfl hl.1 rfl (Nat.le_of_ble_eq_true rfl) dX9_copy_100 ⟨Nat.le_of_ble_eq_true rfl, Nat.le_of_ble_eq_true rfl⟩ (fun r_124 hr_125 => ?_)
                  refine lv_if_ne (tgt := 113) hx hb dX9_copy_103 (by decide) (fun c_126 => ?_) (fun c_126 => ?_)
                  · refine lv_aload hx hb dX9_copy_113 (lv_at hl 1 rfl) ?_
                    refine va_get (D := D) (ci := 5) (v := .ref (a 15)) (C := RX6) (T := TX6) (N := 3) hx hb hts hi6 hown hK hP 14 rfl rfl 0 (by decide) hw4 (fun _ h9 => h9) rfl dX9_copy_115 ?_
                    refine lv_iload_n hx hb dX9_copy_118 rfl (lv_at hl 4 rfl) ?_
                    refine lv_aload hx hb dX9_copy_119 (lv_at hl 0 rfl) ?_
                    refine va_get (D := D) (ci := 5) (v := .ref (a 13)) (C := RX6) (T := TX6) (N := 3) hx hb hts hi6 hown hK hP 12 rfl rfl 0 (by decide) hw4 (fun _ h9 => h9) rfl dX9_copy_121 ?_
                    refine lv_iload hx hb dX9_copy_124 (lv_at hl 6 rfl) ?_
                    refine lv_iload hx hb dX9_copy_126 (lv_at hl 7 rfl) ?_
                    refine va_copyi hx hb (by rw [hml]; exact hl.1.symm) hown hw5 hw6 hw7 hw8 hK hP hD hS 15 13 0 0 rfl rfl rfl rfl rfl (hr_120.2 c_121).1 (hr_125.2 c_126).1 (hr_120.2 c_121).2.1 (hr_le hM.2.2.2.2.2.1 (hr_120.2 c_121)) (hr_le hM.2.2.2.2.1 (hr_125.2 c_126)) (fun _ _ => rfl) (Nat.le_of_ble_eq_true rfl) (Nat.le_of_ble_eq_true rfl) dX9_copy_128 (fun H locs hP hD hS => ?_)
                    have hP : va_P D vwCl (CT cy a J (va_up I 10 (I 10)) O (va_up (va_up (va_up (va_up R 13 (va_cpy (R 15) (R 13) x1.toNatClampNeg x3.toNatClampNeg x4.toNatClampNeg)) 15 (R 15)) 17 (R 17)) 19 (R 19)) RO (LL ++ Y)) H := hP
                    have hD : va_D A (CT cy a J (va_up I 10 (I 10)) O (va_up (va_up (va_up (va_up R 13 (va_cpy (R 15) (R 13) x1.toNatClampNeg x3.toNatClampNeg x4.toNatClampNeg)) 15 (R 15)) 17 (R 17)) 19 (R 19)) RO (LL ++ Y)) := hD
                    refine lv_iload hx hb dX9_copy_131 (lv_at hl 7 rfl) ?_
                    exact wret_i hx hb hr hlocks (J, (va_up I 10 (I 10)), O, (va_up (va_up (va_up (va_up R 13 (va_cpy (R 15) (R 13) x1.toNatClampNeg x3.toNatClampNeg x4.toNatClampNeg)) 15 (R 15)) 17 (R 17)) 19 (R 19)), RO, LL, Y) ⟨(I 10), (va_cpy (R 15) (R 13) x1.toNatClampNeg x3.toNatClampNeg x4.toNatClampNeg), (R 15), (R 17), (R 19), trivial, rfl⟩ hP hD hS dX9_copy_133
                  · refine lv_aload_n hx hb dX9_copy_106 rfl (lv_at hl 2 rfl) ?_
                    refine lv_ldc (v := (-100001)) hx hb hown hw0 dX9_copy_107 ?_
                    refine kM_i (As := [.int (-100001)]) (rest := []) (q0 := 0) ⟨hx, hb, hml, hown, hts⟩ (t_X9_finding l D cy a _ J (va_up I 10 (I 10)) O (va_up (va_up (va_up (va_up R 13 (R 13)) 15 (R 15)) 17 (R 17)) 19 (R 19)) RO LL Y ((-100001) : Int32)   ) (cwV 1 hts gX9_copy_X9_finding rfl rfl rfl (by decide +kernel) ⟨Nat.le_of_ble_eq_true rfl, Nat.le_of_ble_eq_true rfl⟩) hK hN hP hD hS hA rfl rfl rfl hl.1 rfl (Nat.le_of_ble_eq_true rfl) dX9_copy_109 ⟨Nat.le_of_ble_eq_true rfl, Nat.le_of_ble_eq_true rfl⟩ (fun r_127 u H locs hw hP hD hS => ?_)
                    obtain ⟨w_128, rfl, rfl⟩ := hw
                    have hP : va_P D vwCl (CT cy a J (va_up I 10 w_128) O (va_up (va_up (va_up (va_up R 13 (R 13)) 15 (R 15)) 17 (R 17)) 19 (R 19)) RO (LL ++ Y)) H := hP
                    have hD : va_D A (CT cy a J (va_up I 10 w_128) O (va_up (va_up (va_up (va_up R 13 (R 13)) 15 (R 15)) 17 (R 17)) 19 (R 19)) RO (LL ++ Y)) := hD
                    exact wret_i hx hb hr hlocks (J, (va_up I 10 w_128), O, (va_up (va_up (va_up (va_up R 13 (R 13)) 15 (R 15)) 17 (R 17)) 19 (R 19)), RO, LL, Y) ⟨w_128, (R 13), (R 15), (R 17), (R 19), trivial, rfl⟩ hP hD hS dX9_copy_112
              · refine lv_aload_n hx hb dX9_copy_76 rfl (lv_at hl 2 rfl) ?_
                refine lv_ldc (v := (-100004)) hx hb hown hw9 dX9_copy_77 ?_
                refine kM_i (As := [.int (-100004)]) (rest := []) (q0 := 0) ⟨hx, hb, hml, hown, hts⟩ (t_X9_finding l D cy a _ J (va_up I 10 (I 10)) O (va_up (va_up (va_up (va_up R 13 (R 13)) 15 (R 15)) 17 (R 17)) 19 (R 19)) RO LL Y ((-100004) : Int32)   ) (cwV 1 hts gX9_copy_X9_finding rfl rfl rfl (by decide +kernel) ⟨Nat.le_of_ble_eq_true rfl, Nat.le_of_ble_eq_true rfl⟩) hK hN hP hD hS hA rfl rfl rfl hl.1 rfl (Nat.le_of_ble_eq_true rfl) dX9_copy_79 ⟨Nat.le_of_ble_eq_true rfl, Nat.le_of_ble_eq_true rfl⟩ (fun r_129 u H locs hw hP hD hS => ?_)
                obtain ⟨w_130, rfl, rfl⟩ := hw
                have hP : va_P D vwCl (CT cy a J (va_up I 10 w_130) O (va_up (va_up (va_up (va_up R 13 (R 13)) 15 (R 15)) 17 (R 17)) 19 (R 19)) RO (LL ++ Y)) H := hP
                have hD : va_D A (CT cy a J (va_up I 10 w_130) O (va_up (va_up (va_up (va_up R 13 (R 13)) 15 (R 15)) 17 (R 17)) 19 (R 19)) RO (LL ++ Y)) := hD
                exact wret_i hx hb hr hlocks (J, (va_up I 10 w_130), O, (va_up (va_up (va_up (va_up R 13 (R 13)) 15 (R 15)) 17 (R 17)) 19 (R 19)), RO, LL, Y) ⟨w_130, (R 13), (R 15), (R 17), (R 19), trivial, rfl⟩ hP hD hS dX9_copy_82
            · replace c_117 := bI_t c_117
              refine lv_aload_n hx hb dX9_copy_55 rfl (lv_at hl 2 rfl) ?_
              refine lv_ldcw (v := (-100002)) hx hb hown hw2 dX9_copy_56 ?_
              refine kM_i (As := [.int (-100002)]) (rest := []) (q0 := 0) ⟨hx, hb, hml, hown, hts⟩ (t_X9_finding l D cy a _ J (va_up I 10 (I 10)) O (va_up (va_up (va_up (va_up R 13 (R 13)) 15 (R 15)) 17 (R 17)) 19 (R 19)) RO LL Y ((-100002) : Int32)   ) (cwV 1 hts gX9_copy_X9_finding rfl rfl rfl (by decide +kernel) ⟨Nat.le_of_ble_eq_true rfl, Nat.le_of_ble_eq_true rfl⟩) hK hN hP hD hS hA rfl rfl rfl hl.1 rfl (Nat.le_of_ble_eq_true rfl) dX9_copy_59 ⟨Nat.le_of_ble_eq_true rfl, Nat.le_of_ble_eq_true rfl⟩ (fun r_131 u H locs hw hP hD hS => ?_)
              obtain ⟨w_132, rfl, rfl⟩ := hw
              have hP : va_P D vwCl (CT cy a J (va_up I 10 w_132) O (va_up (va_up (va_up (va_up R 13 (R 13)) 15 (R 15)) 17 (R 17)) 19 (R 19)) RO (LL ++ Y)) H := hP
              have hD : va_D A (CT cy a J (va_up I 10 w_132) O (va_up (va_up (va_up (va_up R 13 (R 13)) 15 (R 15)) 17 (R 17)) 19 (R 19)) RO (LL ++ Y)) := hD
              exact wret_i hx hb hr hlocks (J, (va_up I 10 w_132), O, (va_up (va_up (va_up (va_up R 13 (R 13)) 15 (R 15)) 17 (R 17)) 19 (R 19)), RO, LL, Y) ⟨w_132, (R 13), (R 15), (R 17), (R 19), trivial, rfl⟩ hP hD hS dX9_copy_62
        · refine wtop_v (y := .ref (a 14)) (by rw [hj_107]; exact congrArg va_rf hRO1) ?_
          refine lv_astore (lv' := [(7, .ref (a 14)), (6, .ref (a 14)), (0, .ref (a 0)), (1, .int x0), (2, .int x1), (3, .int x2), (4, .int x3), (5, .int x4)]) hx hb dX9_copy_37 hl (by decide) rfl (fun ls hl => ?_)
          refine lv_aload hx hb dX9_copy_39 (lv_at hl 1 rfl) ?_
          refine kRa_i (As := []) (rest := []) (q0 := 14) ⟨hx, hb, hml, hown, hts⟩ (t_X6_isMissing14 l D cy a _ J (va_up I 10 (I 10)) O (va_up (va_up (va_up (va_up R 13 (R 13)) 15 (R 15)) 17 (R 17)) 19 (R 19)) RO LL Y   ) (cwV 0 hts gX9_copy_X6_isMissing rfl rfl rfl (by decide +kernel) ⟨Nat.le_of_ble_eq_true rfl, Nat.le_of_ble_eq_true rfl⟩) hK hN hP hD rfl rfl rfl hl.1 rfl (Nat.le_of_ble_eq_true rfl) dX9_copy_41 ⟨Nat.le_of_ble_eq_true rfl, Nat.le_of_ble_eq_true rfl⟩ (fun r_133 hr_134 => ?_)
          obtain ⟨zb_135, rfl⟩ := hr_134
          refine lv_if_ne (tgt := 55) hx hb dX9_copy_44 (by decide) (fun c_136 => ?_) (fun c_136 => ?_)
          · replace c_136 := bI_t c_136
            refine lv_aload_n hx hb dX9_copy_55 rfl (lv_at hl 2 rfl) ?_
            refine lv_ldcw (v := (-100002)) hx hb hown hw2 dX9_copy_56 ?_
            refine kM_i (As := [.int (-100002)]) (rest := []) (q0 := 0) ⟨hx, hb, hml, hown, hts⟩ (t_X9_finding l D cy a _ J (va_up I 10 (I 10)) O (va_up (va_up (va_up (va_up R 13 (R 13)) 15 (R 15)) 17 (R 17)) 19 (R 19)) RO LL Y ((-100002) : Int32)   ) (cwV 1 hts gX9_copy_X9_finding rfl rfl rfl (by decide +kernel) ⟨Nat.le_of_ble_eq_true rfl, Nat.le_of_ble_eq_true rfl⟩) hK hN hP hD hS hA rfl rfl rfl hl.1 rfl (Nat.le_of_ble_eq_true rfl) dX9_copy_59 ⟨Nat.le_of_ble_eq_true rfl, Nat.le_of_ble_eq_true rfl⟩ (fun r_137 u H locs hw hP hD hS => ?_)
            obtain ⟨w_138, rfl, rfl⟩ := hw
            have hP : va_P D vwCl (CT cy a J (va_up I 10 w_138) O (va_up (va_up (va_up (va_up R 13 (R 13)) 15 (R 15)) 17 (R 17)) 19 (R 19)) RO (LL ++ Y)) H := hP
            have hD : va_D A (CT cy a J (va_up I 10 w_138) O (va_up (va_up (va_up (va_up R 13 (R 13)) 15 (R 15)) 17 (R 17)) 19 (R 19)) RO (LL ++ Y)) := hD
            exact wret_i hx hb hr hlocks (J, (va_up I 10 w_138), O, (va_up (va_up (va_up (va_up R 13 (R 13)) 15 (R 15)) 17 (R 17)) 19 (R 19)), RO, LL, Y) ⟨w_138, (R 13), (R 15), (R 17), (R 19), trivial, rfl⟩ hP hD hS dX9_copy_62
          · replace c_136 := bI_f c_136
            refine lv_aload hx hb dX9_copy_47 (lv_at hl 0 rfl) ?_
            refine kRa_i (As := []) (rest := []) (q0 := 14) ⟨hx, hb, hml, hown, hts⟩ (t_X6_isMissing14 l D cy a _ J (va_up I 10 (I 10)) O (va_up (va_up (va_up (va_up R 13 (R 13)) 15 (R 15)) 17 (R 17)) 19 (R 19)) RO LL Y   ) (cwV 0 hts gX9_copy_X6_isMissing rfl rfl rfl (by decide +kernel) ⟨Nat.le_of_ble_eq_true rfl, Nat.le_of_ble_eq_true rfl⟩) hK hN hP hD rfl rfl rfl hl.1 rfl (Nat.le_of_ble_eq_true rfl) dX9_copy_49 ⟨Nat.le_of_ble_eq_true rfl, Nat.le_of_ble_eq_true rfl⟩ (fun r_139 hr_140 => ?_)
            obtain ⟨zb_141, rfl⟩ := hr_140
            refine lv_if_eq (tgt := 63) hx hb dX9_copy_52 (by decide) (fun c_142 => ?_) (fun c_142 => ?_)
            · replace c_142 := bI_f c_142
              refine lv_aload hx hb dX9_copy_63 (lv_at hl 1 rfl) ?_
              refine va_get (D := D) (ci := 5) (v := .int (I 449)) (C := RX6) (T := TX6) (N := 3) hx hb hts hi6 hown hK hP 14 rfl rfl 1 (by decide) hw3 (fun _ h9 => h9) rfl dX9_copy_65 ?_
              refine lv_aload hx hb dX9_copy_68 (lv_at hl 0 rfl) ?_
              refine va_get (D := D) (ci := 5) (v := .int (I 449)) (C := RX6) (T := TX6) (N := 3) hx hb hts hi6 hown hK hP 14 rfl rfl 1 (by decide) hw3 (fun _ h9 => h9) rfl dX9_copy_70 ?_
              refine lv_icmp_eq (tgt := 83) hx hb dX9_copy_73 (by decide) (fun c_143 => ?_) (fun c_143 => ?_)
              · refine lv_aload hx hb dX9_copy_83 (lv_at hl 1 rfl) ?_
                refine lv_iload_n hx hb dX9_copy_85 rfl (lv_at hl 4 rfl) ?_
                refine lv_iload hx hb dX9_copy_86 (lv_at hl 7 rfl) ?_
                refine kRa_i (As := [.int x1, .int x4]) (rest := []) (q0 := 14) ⟨hx, hb, hml, hown, hts⟩ (t_X6_hasRange14 l D cy a _ J (va_up I 10 (I 10)) O (va_up (va_up (va_up (va_up R 13 (R 13)) 15 (R 15)) 17 (R 17)) 19 (R 19)) RO LL Y x1 x4  ) (cwV 2 hts gX9_copy_X6_hasRange rfl rfl rfl (by decide +kernel) ⟨Nat.le_of_ble_eq_true rfl, Nat.le_of_ble_eq_true rfl⟩) hK hN hP hD rfl rfl rfl hl.1 rfl (Nat.le_of_ble_eq_true rfl) dX9_copy_88 ⟨Nat.le_of_ble_eq_true rfl, Nat.le_of_ble_eq_true rfl⟩ (fun r_144 hr_145 => ?_)
                refine lv_if_eq (tgt := 106) hx hb dX9_copy_91 (by decide) (fun c_146 => ?_) (fun c_146 => ?_)
                · refine lv_aload_n hx hb dX9_copy_106 rfl (lv_at hl 2 rfl) ?_
                  refine lv_ldc (v := (-100001)) hx hb hown hw0 dX9_copy_107 ?_
                  refine kM_i (As := [.int (-100001)]) (rest := []) (q0 := 0) ⟨hx, hb, hml, hown, hts⟩ (t_X9_finding l D cy a _ J (va_up I 10 (I 10)) O (va_up (va_up (va_up (va_up R 13 (R 13)) 15 (R 15)) 17 (R 17)) 19 (R 19)) RO LL Y ((-100001) : Int32)   ) (cwV 1 hts gX9_copy_X9_finding rfl rfl rfl (by decide +kernel) ⟨Nat.le_of_ble_eq_true rfl, Nat.le_of_ble_eq_true rfl⟩) hK hN hP hD hS hA rfl rfl rfl hl.1 rfl (Nat.le_of_ble_eq_true rfl) dX9_copy_109 ⟨Nat.le_of_ble_eq_true rfl, Nat.le_of_ble_eq_true rfl⟩ (fun r_147 u H locs hw hP hD hS => ?_)
                  obtain ⟨w_148, rfl, rfl⟩ := hw
                  have hP : va_P D vwCl (CT cy a J (va_up I 10 w_148) O (va_up (va_up (va_up (va_up R 13 (R 13)) 15 (R 15)) 17 (R 17)) 19 (R 19)) RO (LL ++ Y)) H := hP
                  have hD : va_D A (CT cy a J (va_up I 10 w_148) O (va_up (va_up (va_up (va_up R 13 (R 13)) 15 (R 15)) 17 (R 17)) 19 (R 19)) RO (LL ++ Y)) := hD
                  exact wret_i hx hb hr hlocks (J, (va_up I 10 w_148), O, (va_up (va_up (va_up (va_up R 13 (R 13)) 15 (R 15)) 17 (R 17)) 19 (R 19)), RO, LL, Y) ⟨w_148, (R 13), (R 15), (R 17), (R 19), trivial, rfl⟩ hP hD hS dX9_copy_112
                · refine lv_aload hx hb dX9_copy_94 (lv_at hl 0 rfl) ?_
                  refine lv_iload hx hb dX9_copy_96 (lv_at hl 6 rfl) ?_
                  refine lv_iload hx hb dX9_copy_98 (lv_at hl 7 rfl) ?_
                  refine kRa_i (As := [.int x3, .int x4]) (rest := []) (q0 := 14) ⟨hx, hb, hml, hown, hts⟩ (t_X6_hasRange14 l D cy a _ J (va_up I 10 (I 10)) O (va_up (va_up (va_up (va_up R 13 (R 13)) 15 (R 15)) 17 (R 17)) 19 (R 19)) RO LL Y x3 x4  ) (cwV 2 hts gX9_copy_X6_hasRange rfl rfl rfl (by decide +kernel) ⟨Nat.le_of_ble_eq_true rfl, Nat.le_of_ble_eq_true rfl⟩) hK hN hP hD rfl rfl rfl hl.1 rfl (Nat.le_of_ble_eq_true rfl) dX9_copy_100 ⟨Nat.le_of_ble_eq_true rfl, Nat.le_of_ble_eq_true rfl⟩ (fun r_149 hr_150 => ?_)
                  refine lv_if_ne (tgt := 113) hx hb dX9_copy_103 (by decide) (fun c_151 => ?_) (fun c_151 => ?_)
                  · refine lv_aload hx hb dX9_copy_113 (lv_at hl 1 rfl) ?_
                    refine va_get (D := D) (ci := 5) (v := .ref (a 15)) (C := RX6) (T := TX6) (N := 3) hx hb hts hi6 hown hK hP 14 rfl rfl 0 (by decide) hw4 (fun _ h9 => h9) rfl dX9_copy_115 ?_
                    refine lv_iload_n hx hb dX9_copy_118 rfl (lv_at hl 4 rfl) ?_
                    refine lv_aload hx hb dX9_copy_119 (lv_at hl 0 rfl) ?_
                    refine va_get (D := D) (ci := 5) (v := .ref (a 15)) (C := RX6) (T := TX6) (N := 3) hx hb hts hi6 hown hK hP 14 rfl rfl 0 (by decide) hw4 (fun _ h9 => h9) rfl dX9_copy_121 ?_
                    refine lv_iload hx hb dX9_copy_124 (lv_at hl 6 rfl) ?_
                    refine lv_iload hx hb dX9_copy_126 (lv_at hl 7 rfl) ?_
                    refine va_copyi hx hb (by rw [hml]; exact hl.1.symm) hown hw5 hw6 hw7 hw8 hK hP hD hS 15 15 0 0 rfl rfl rfl rfl rfl (hr_145.2 c_146).1 (hr_150.2 c_151).1 (hr_145.2 c_146).2.1 (hr_le hM.2.2.2.2.2.1 (hr_145.2 c_146)) (hr_le hM.2.2.2.2.2.1 (hr_150.2 c_151)) (fun _ _ => rfl) (Nat.le_of_ble_eq_true rfl) (Nat.le_of_ble_eq_true rfl) dX9_copy_128 (fun H locs hP hD hS => ?_)
                    have hP : va_P D vwCl (CT cy a J (va_up I 10 (I 10)) O (va_up (va_up (va_up (va_up R 13 (R 13)) 15 (va_cpy (R 15) (R 15) x1.toNatClampNeg x3.toNatClampNeg x4.toNatClampNeg)) 17 (R 17)) 19 (R 19)) RO (LL ++ Y)) H := hP
                    have hD : va_D A (CT cy a J (va_up I 10 (I 10)) O (va_up (va_up (va_up (va_up R 13 (R 13)) 15 (va_cpy (R 15) (R 15) x1.toNatClampNeg x3.toNatClampNeg x4.toNatClampNeg)) 17 (R 17)) 19 (R 19)) RO (LL ++ Y)) := hD
                    refine lv_iload hx hb dX9_copy_131 (lv_at hl 7 rfl) ?_
                    exact wret_i hx hb hr hlocks (J, (va_up I 10 (I 10)), O, (va_up (va_up (va_up (va_up R 13 (R 13)) 15 (va_cpy (R 15) (R 15) x1.toNatClampNeg x3.toNatClampNeg x4.toNatClampNeg)) 17 (R 17)) 19 (R 19)), RO, LL, Y) ⟨(I 10), (R 13), (va_cpy (R 15) (R 15) x1.toNatClampNeg x3.toNatClampNeg x4.toNatClampNeg), (R 17), (R 19), trivial, rfl⟩ hP hD hS dX9_copy_133
                  · refine lv_aload_n hx hb dX9_copy_106 rfl (lv_at hl 2 rfl) ?_
                    refine lv_ldc (v := (-100001)) hx hb hown hw0 dX9_copy_107 ?_
                    refine kM_i (As := [.int (-100001)]) (rest := []) (q0 := 0) ⟨hx, hb, hml, hown, hts⟩ (t_X9_finding l D cy a _ J (va_up I 10 (I 10)) O (va_up (va_up (va_up (va_up R 13 (R 13)) 15 (R 15)) 17 (R 17)) 19 (R 19)) RO LL Y ((-100001) : Int32)   ) (cwV 1 hts gX9_copy_X9_finding rfl rfl rfl (by decide +kernel) ⟨Nat.le_of_ble_eq_true rfl, Nat.le_of_ble_eq_true rfl⟩) hK hN hP hD hS hA rfl rfl rfl hl.1 rfl (Nat.le_of_ble_eq_true rfl) dX9_copy_109 ⟨Nat.le_of_ble_eq_true rfl, Nat.le_of_ble_eq_true rfl⟩ (fun r_152 u H locs hw hP hD hS => ?_)
                    obtain ⟨w_153, rfl, rfl⟩ := hw
                    have hP : va_P D vwCl (CT cy a J (va_up I 10 w_153) O (va_up (va_up (va_up (va_up R 13 (R 13)) 15 (R 15)) 17 (R 17)) 19 (R 19)) RO (LL ++ Y)) H := hP
                    have hD : va_D A (CT cy a J (va_up I 10 w_153) O (va_up (va_up (va_up (va_up R 13 (R 13)) 15 (R 15)) 17 (R 17)) 19 (R 19)) RO (LL ++ Y)) := hD
                    exact wret_i hx hb hr hlocks (J, (va_up I 10 w_153), O, (va_up (va_up (va_up (va_up R 13 (R 13)) 15 (R 15)) 17 (R 17)) 19 (R 19)), RO, LL, Y) ⟨w_153, (R 13), (R 15), (R 17), (R 19), trivial, rfl⟩ hP hD hS dX9_copy_112
              · refine lv_aload_n hx hb dX9_copy_76 rfl (lv_at hl 2 rfl) ?_
                refine lv_ldc (v := (-100004)) hx hb hown hw9 dX9_copy_77 ?_
                refine kM_i (As := [.int (-100004)]) (rest := []) (q0 := 0) ⟨hx, hb, hml, hown, hts⟩ (t_X9_finding l D cy a _ J (va_up I 10 (I 10)) O (va_up (va_up (va_up (va_up R 13 (R 13)) 15 (R 15)) 17 (R 17)) 19 (R 19)) RO LL Y ((-100004) : Int32)   ) (cwV 1 hts gX9_copy_X9_finding rfl rfl rfl (by decide +kernel) ⟨Nat.le_of_ble_eq_true rfl, Nat.le_of_ble_eq_true rfl⟩) hK hN hP hD hS hA rfl rfl rfl hl.1 rfl (Nat.le_of_ble_eq_true rfl) dX9_copy_79 ⟨Nat.le_of_ble_eq_true rfl, Nat.le_of_ble_eq_true rfl⟩ (fun r_154 u H locs hw hP hD hS => ?_)
                obtain ⟨w_155, rfl, rfl⟩ := hw
                have hP : va_P D vwCl (CT cy a J (va_up I 10 w_155) O (va_up (va_up (va_up (va_up R 13 (R 13)) 15 (R 15)) 17 (R 17)) 19 (R 19)) RO (LL ++ Y)) H := hP
                have hD : va_D A (CT cy a J (va_up I 10 w_155) O (va_up (va_up (va_up (va_up R 13 (R 13)) 15 (R 15)) 17 (R 17)) 19 (R 19)) RO (LL ++ Y)) := hD
                exact wret_i hx hb hr hlocks (J, (va_up I 10 w_155), O, (va_up (va_up (va_up (va_up R 13 (R 13)) 15 (R 15)) 17 (R 17)) 19 (R 19)), RO, LL, Y) ⟨w_155, (R 13), (R 15), (R 17), (R 19), trivial, rfl⟩ hP hD hS dX9_copy_82
            · replace c_142 := bI_t c_142
              refine lv_aload_n hx hb dX9_copy_55 rfl (lv_at hl 2 rfl) ?_
              refine lv_ldcw (v := (-100002)) hx hb hown hw2 dX9_copy_56 ?_
              refine kM_i (As := [.int (-100002)]) (rest := []) (q0 := 0) ⟨hx, hb, hml, hown, hts⟩ (t_X9_finding l D cy a _ J (va_up I 10 (I 10)) O (va_up (va_up (va_up (va_up R 13 (R 13)) 15 (R 15)) 17 (R 17)) 19 (R 19)) RO LL Y ((-100002) : Int32)   ) (cwV 1 hts gX9_copy_X9_finding rfl rfl rfl (by decide +kernel) ⟨Nat.le_of_ble_eq_true rfl, Nat.le_of_ble_eq_true rfl⟩) hK hN hP hD hS hA rfl rfl rfl hl.1 rfl (Nat.le_of_ble_eq_true rfl) dX9_copy_59 ⟨Nat.le_of_ble_eq_true rfl, Nat.le_of_ble_eq_true rfl⟩ (fun r_156 u H locs hw hP hD hS => ?_)
              obtain ⟨w_157, rfl, rfl⟩ := hw
              have hP : va_P D vwCl (CT cy a J (va_up I 10 w_157) O (va_up (va_up (va_up (va_up R 13 (R 13)) 15 (R 15)) 17 (R 17)) 19 (R 19)) RO (LL ++ Y)) H := hP
              have hD : va_D A (CT cy a J (va_up I 10 w_157) O (va_up (va_up (va_up (va_up R 13 (R 13)) 15 (R 15)) 17 (R 17)) 19 (R 19)) RO (LL ++ Y)) := hD
              exact wret_i hx hb hr hlocks (J, (va_up I 10 w_157), O, (va_up (va_up (va_up (va_up R 13 (R 13)) 15 (R 15)) 17 (R 17)) 19 (R 19)), RO, LL, Y) ⟨w_157, (R 13), (R 15), (R 17), (R 19), trivial, rfl⟩ hP hD hS dX9_copy_62
        · refine wtop_v (y := .ref (a 16)) (by rw [hj_107]; exact congrArg va_rf hRO2) ?_
          refine lv_astore (lv' := [(7, .ref (a 16)), (6, .ref (a 14)), (0, .ref (a 0)), (1, .int x0), (2, .int x1), (3, .int x2), (4, .int x3), (5, .int x4)]) hx hb dX9_copy_37 hl (by decide) rfl (fun ls hl => ?_)
          refine lv_aload hx hb dX9_copy_39 (lv_at hl 1 rfl) ?_
          refine kRa_i (As := []) (rest := []) (q0 := 14) ⟨hx, hb, hml, hown, hts⟩ (t_X6_isMissing14 l D cy a _ J (va_up I 10 (I 10)) O (va_up (va_up (va_up (va_up R 13 (R 13)) 15 (R 15)) 17 (R 17)) 19 (R 19)) RO LL Y   ) (cwV 0 hts gX9_copy_X6_isMissing rfl rfl rfl (by decide +kernel) ⟨Nat.le_of_ble_eq_true rfl, Nat.le_of_ble_eq_true rfl⟩) hK hN hP hD rfl rfl rfl hl.1 rfl (Nat.le_of_ble_eq_true rfl) dX9_copy_41 ⟨Nat.le_of_ble_eq_true rfl, Nat.le_of_ble_eq_true rfl⟩ (fun r_158 hr_159 => ?_)
          obtain ⟨zb_160, rfl⟩ := hr_159
          refine lv_if_ne (tgt := 55) hx hb dX9_copy_44 (by decide) (fun c_161 => ?_) (fun c_161 => ?_)
          · replace c_161 := bI_t c_161
            refine lv_aload_n hx hb dX9_copy_55 rfl (lv_at hl 2 rfl) ?_
            refine lv_ldcw (v := (-100002)) hx hb hown hw2 dX9_copy_56 ?_
            refine kM_i (As := [.int (-100002)]) (rest := []) (q0 := 0) ⟨hx, hb, hml, hown, hts⟩ (t_X9_finding l D cy a _ J (va_up I 10 (I 10)) O (va_up (va_up (va_up (va_up R 13 (R 13)) 15 (R 15)) 17 (R 17)) 19 (R 19)) RO LL Y ((-100002) : Int32)   ) (cwV 1 hts gX9_copy_X9_finding rfl rfl rfl (by decide +kernel) ⟨Nat.le_of_ble_eq_true rfl, Nat.le_of_ble_eq_true rfl⟩) hK hN hP hD hS hA rfl rfl rfl hl.1 rfl (Nat.le_of_ble_eq_true rfl) dX9_copy_59 ⟨Nat.le_of_ble_eq_true rfl, Nat.le_of_ble_eq_true rfl⟩ (fun r_162 u H locs hw hP hD hS => ?_)
            obtain ⟨w_163, rfl, rfl⟩ := hw
            have hP : va_P D vwCl (CT cy a J (va_up I 10 w_163) O (va_up (va_up (va_up (va_up R 13 (R 13)) 15 (R 15)) 17 (R 17)) 19 (R 19)) RO (LL ++ Y)) H := hP
            have hD : va_D A (CT cy a J (va_up I 10 w_163) O (va_up (va_up (va_up (va_up R 13 (R 13)) 15 (R 15)) 17 (R 17)) 19 (R 19)) RO (LL ++ Y)) := hD
            exact wret_i hx hb hr hlocks (J, (va_up I 10 w_163), O, (va_up (va_up (va_up (va_up R 13 (R 13)) 15 (R 15)) 17 (R 17)) 19 (R 19)), RO, LL, Y) ⟨w_163, (R 13), (R 15), (R 17), (R 19), trivial, rfl⟩ hP hD hS dX9_copy_62
          · replace c_161 := bI_f c_161
            refine lv_aload hx hb dX9_copy_47 (lv_at hl 0 rfl) ?_
            refine kRa_i (As := []) (rest := []) (q0 := 16) ⟨hx, hb, hml, hown, hts⟩ (t_X6_isMissing16 l D cy a _ J (va_up I 10 (I 10)) O (va_up (va_up (va_up (va_up R 13 (R 13)) 15 (R 15)) 17 (R 17)) 19 (R 19)) RO LL Y   ) (cwV 0 hts gX9_copy_X6_isMissing rfl rfl rfl (by decide +kernel) ⟨Nat.le_of_ble_eq_true rfl, Nat.le_of_ble_eq_true rfl⟩) hK hN hP hD rfl rfl rfl hl.1 rfl (Nat.le_of_ble_eq_true rfl) dX9_copy_49 ⟨Nat.le_of_ble_eq_true rfl, Nat.le_of_ble_eq_true rfl⟩ (fun r_164 hr_165 => ?_)
            obtain ⟨zb_166, rfl⟩ := hr_165
            refine lv_if_eq (tgt := 63) hx hb dX9_copy_52 (by decide) (fun c_167 => ?_) (fun c_167 => ?_)
            · replace c_167 := bI_f c_167
              refine lv_aload hx hb dX9_copy_63 (lv_at hl 1 rfl) ?_
              refine va_get (D := D) (ci := 5) (v := .int (I 449)) (C := RX6) (T := TX6) (N := 3) hx hb hts hi6 hown hK hP 14 rfl rfl 1 (by decide) hw3 (fun _ h9 => h9) rfl dX9_copy_65 ?_
              refine lv_aload hx hb dX9_copy_68 (lv_at hl 0 rfl) ?_
              refine va_get (D := D) (ci := 5) (v := .int (I 513)) (C := RX6) (T := TX6) (N := 3) hx hb hts hi6 hown hK hP 16 rfl rfl 1 (by decide) hw3 (fun _ h9 => h9) rfl dX9_copy_70 ?_
              refine lv_icmp_eq (tgt := 83) hx hb dX9_copy_73 (by decide) (fun c_168 => ?_) (fun c_168 => ?_)
              · refine lv_aload hx hb dX9_copy_83 (lv_at hl 1 rfl) ?_
                refine lv_iload_n hx hb dX9_copy_85 rfl (lv_at hl 4 rfl) ?_
                refine lv_iload hx hb dX9_copy_86 (lv_at hl 7 rfl) ?_
                refine kRa_i (As := [.int x1, .int x4]) (rest := []) (q0 := 14) ⟨hx, hb, hml, hown, hts⟩ (t_X6_hasRange14 l D cy a _ J (va_up I 10 (I 10)) O (va_up (va_up (va_up (va_up R 13 (R 13)) 15 (R 15)) 17 (R 17)) 19 (R 19)) RO LL Y x1 x4  ) (cwV 2 hts gX9_copy_X6_hasRange rfl rfl rfl (by decide +kernel) ⟨Nat.le_of_ble_eq_true rfl, Nat.le_of_ble_eq_true rfl⟩) hK hN hP hD rfl rfl rfl hl.1 rfl (Nat.le_of_ble_eq_true rfl) dX9_copy_88 ⟨Nat.le_of_ble_eq_true rfl, Nat.le_of_ble_eq_true rfl⟩ (fun r_169 hr_170 => ?_)
                refine lv_if_eq (tgt := 106) hx hb dX9_copy_91 (by decide) (fun c_171 => ?_) (fun c_171 => ?_)
                · refine lv_aload_n hx hb dX9_copy_106 rfl (lv_at hl 2 rfl) ?_
                  refine lv_ldc (v := (-100001)) hx hb hown hw0 dX9_copy_107 ?_
                  refine kM_i (As := [.int (-100001)]) (rest := []) (q0 := 0) ⟨hx, hb, hml, hown, hts⟩ (t_X9_finding l D cy a _ J (va_up I 10 (I 10)) O (va_up (va_up (va_up (va_up R 13 (R 13)) 15 (R 15)) 17 (R 17)) 19 (R 19)) RO LL Y ((-100001) : Int32)   ) (cwV 1 hts gX9_copy_X9_finding rfl rfl rfl (by decide +kernel) ⟨Nat.le_of_ble_eq_true rfl, Nat.le_of_ble_eq_true rfl⟩) hK hN hP hD hS hA rfl rfl rfl hl.1 rfl (Nat.le_of_ble_eq_true rfl) dX9_copy_109 ⟨Nat.le_of_ble_eq_true rfl, Nat.le_of_ble_eq_true rfl⟩ (fun r_172 u H locs hw hP hD hS => ?_)
                  obtain ⟨w_173, rfl, rfl⟩ := hw
                  have hP : va_P D vwCl (CT cy a J (va_up I 10 w_173) O (va_up (va_up (va_up (va_up R 13 (R 13)) 15 (R 15)) 17 (R 17)) 19 (R 19)) RO (LL ++ Y)) H := hP
                  have hD : va_D A (CT cy a J (va_up I 10 w_173) O (va_up (va_up (va_up (va_up R 13 (R 13)) 15 (R 15)) 17 (R 17)) 19 (R 19)) RO (LL ++ Y)) := hD
                  exact wret_i hx hb hr hlocks (J, (va_up I 10 w_173), O, (va_up (va_up (va_up (va_up R 13 (R 13)) 15 (R 15)) 17 (R 17)) 19 (R 19)), RO, LL, Y) ⟨w_173, (R 13), (R 15), (R 17), (R 19), trivial, rfl⟩ hP hD hS dX9_copy_112
                · refine lv_aload hx hb dX9_copy_94 (lv_at hl 0 rfl) ?_
                  refine lv_iload hx hb dX9_copy_96 (lv_at hl 6 rfl) ?_
                  refine lv_iload hx hb dX9_copy_98 (lv_at hl 7 rfl) ?_
                  refine kRa_i (As := [.int x3, .int x4]) (rest := []) (q0 := 16) ⟨hx, hb, hml, hown, hts⟩ (t_X6_hasRange16 l D cy a _ J (va_up I 10 (I 10)) O (va_up (va_up (va_up (va_up R 13 (R 13)) 15 (R 15)) 17 (R 17)) 19 (R 19)) RO LL Y x3 x4  ) (cwV 2 hts gX9_copy_X6_hasRange rfl rfl rfl (by decide +kernel) ⟨Nat.le_of_ble_eq_true rfl, Nat.le_of_ble_eq_true rfl⟩) hK hN hP hD rfl rfl rfl hl.1 rfl (Nat.le_of_ble_eq_true rfl) dX9_copy_100 ⟨Nat.le_of_ble_eq_true rfl, Nat.le_of_ble_eq_true rfl⟩ (fun r_174 hr_175 => ?_)
                  refine lv_if_ne (tgt := 113) hx hb dX9_copy_103 (by decide) (fun c_176 => ?_) (fun c_176 => ?_)
                  · refine lv_aload hx hb dX9_copy_113 (lv_at hl 1 rfl) ?_
                    refine va_get (D := D) (ci := 5) (v := .ref (a 15)) (C := RX6) (T := TX6) (N := 3) hx hb hts hi6 hown hK hP 14 rfl rfl 0 (by decide) hw4 (fun _ h9 => h9) rfl dX9_copy_115 ?_
                    refine lv_iload_n hx hb dX9_copy_118 rfl (lv_at hl 4 rfl) ?_
                    refine lv_aload hx hb dX9_copy_119 (lv_at hl 0 rfl) ?_
                    refine va_get (D := D) (ci := 5) (v := .ref (a 17)) (C := RX6) (T := TX6) (N := 3) hx hb hts hi6 hown hK hP 16 rfl rfl 0 (by decide) hw4 (fun _ h9 => h9) rfl dX9_copy_121 ?_
                    refine lv_iload hx hb dX9_copy_124 (lv_at hl 6 rfl) ?_
                    refine lv_iload hx hb dX9_copy_126 (lv_at hl 7 rfl) ?_
                    refine va_copyi hx hb (by rw [hml]; exact hl.1.symm) hown hw5 hw6 hw7 hw8 hK hP hD hS 15 17 0 0 rfl rfl rfl rfl rfl (hr_170.2 c_171).1 (hr_175.2 c_176).1 (hr_170.2 c_171).2.1 (hr_le hM.2.2.2.2.2.1 (hr_170.2 c_171)) (hr_le hM.2.2.2.2.2.2.1 (hr_175.2 c_176)) (fun _ _ => rfl) (Nat.le_of_ble_eq_true rfl) (Nat.le_of_ble_eq_true rfl) dX9_copy_128 (fun H locs hP hD hS => ?_)
                    have hP : va_P D vwCl (CT cy a J (va_up I 10 (I 10)) O (va_up (va_up (va_up (va_up R 13 (R 13)) 15 (R 15)) 17 (va_cpy (R 15) (R 17) x1.toNatClampNeg x3.toNatClampNeg x4.toNatClampNeg)) 19 (R 19)) RO (LL ++ Y)) H := hP
                    have hD : va_D A (CT cy a J (va_up I 10 (I 10)) O (va_up (va_up (va_up (va_up R 13 (R 13)) 15 (R 15)) 17 (va_cpy (R 15) (R 17) x1.toNatClampNeg x3.toNatClampNeg x4.toNatClampNeg)) 19 (R 19)) RO (LL ++ Y)) := hD
                    refine lv_iload hx hb dX9_copy_131 (lv_at hl 7 rfl) ?_
                    exact wret_i hx hb hr hlocks (J, (va_up I 10 (I 10)), O, (va_up (va_up (va_up (va_up R 13 (R 13)) 15 (R 15)) 17 (va_cpy (R 15) (R 17) x1.toNatClampNeg x3.toNatClampNeg x4.toNatClampNeg)) 19 (R 19)), RO, LL, Y) ⟨(I 10), (R 13), (R 15), (va_cpy (R 15) (R 17) x1.toNatClampNeg x3.toNatClampNeg x4.toNatClampNeg), (R 19), trivial, rfl⟩ hP hD hS dX9_copy_133
                  · refine lv_aload_n hx hb dX9_copy_106 rfl (lv_at hl 2 rfl) ?_
                    refine lv_ldc (v := (-100001)) hx hb hown hw0 dX9_copy_107 ?_
                    refine kM_i (As := [.int (-100001)]) (rest := []) (q0 := 0) ⟨hx, hb, hml, hown, hts⟩ (t_X9_finding l D cy a _ J (va_up I 10 (I 10)) O (va_up (va_up (va_up (va_up R 13 (R 13)) 15 (R 15)) 17 (R 17)) 19 (R 19)) RO LL Y ((-100001) : Int32)   ) (cwV 1 hts gX9_copy_X9_finding rfl rfl rfl (by decide +kernel) ⟨Nat.le_of_ble_eq_true rfl, Nat.le_of_ble_eq_true rfl⟩) hK hN hP hD hS hA rfl rfl rfl hl.1 rfl (Nat.le_of_ble_eq_true rfl) dX9_copy_109 ⟨Nat.le_of_ble_eq_true rfl, Nat.le_of_ble_eq_true rfl⟩ (fun r_177 u H locs hw hP hD hS => ?_)
                    obtain ⟨w_178, rfl, rfl⟩ := hw
                    have hP : va_P D vwCl (CT cy a J (va_up I 10 w_178) O (va_up (va_up (va_up (va_up R 13 (R 13)) 15 (R 15)) 17 (R 17)) 19 (R 19)) RO (LL ++ Y)) H := hP
                    have hD : va_D A (CT cy a J (va_up I 10 w_178) O (va_up (va_up (va_up (va_up R 13 (R 13)) 15 (R 15)) 17 (R 17)) 19 (R 19)) RO (LL ++ Y)) := hD
                    exact wret_i hx hb hr hlocks (J, (va_up I 10 w_178), O, (va_up (va_up (va_up (va_up R 13 (R 13)) 15 (R 15)) 17 (R 17)) 19 (R 19)), RO, LL, Y) ⟨w_178, (R 13), (R 15), (R 17), (R 19), trivial, rfl⟩ hP hD hS dX9_copy_112
              · refine lv_aload_n hx hb dX9_copy_76 rfl (lv_at hl 2 rfl) ?_
                refine lv_ldc (v := (-100004)) hx hb hown hw9 dX9_copy_77 ?_
                refine kM_i (As := [.int (-100004)]) (rest := []) (q0 := 0) ⟨hx, hb, hml, hown, hts⟩ (t_X9_finding l D cy a _ J (va_up I 10 (I 10)) O (va_up (va_up (va_up (va_up R 13 (R 13)) 15 (R 15)) 17 (R 17)) 19 (R 19)) RO LL Y ((-100004) : Int32)   ) (cwV 1 hts gX9_copy_X9_finding rfl rfl rfl (by decide +kernel) ⟨Nat.le_of_ble_eq_true rfl, Nat.le_of_ble_eq_true rfl⟩) hK hN hP hD hS hA rfl rfl rfl hl.1 rfl (Nat.le_of_ble_eq_true rfl) dX9_copy_79 ⟨Nat.le_of_ble_eq_true rfl, Nat.le_of_ble_eq_true rfl⟩ (fun r_179 u H locs hw hP hD hS => ?_)
                obtain ⟨w_180, rfl, rfl⟩ := hw
                have hP : va_P D vwCl (CT cy a J (va_up I 10 w_180) O (va_up (va_up (va_up (va_up R 13 (R 13)) 15 (R 15)) 17 (R 17)) 19 (R 19)) RO (LL ++ Y)) H := hP
                have hD : va_D A (CT cy a J (va_up I 10 w_180) O (va_up (va_up (va_up (va_up R 13 (R 13)) 15 (R 15)) 17 (R 17)) 19 (R 19)) RO (LL ++ Y)) := hD
                exact wret_i hx hb hr hlocks (J, (va_up I 10 w_180), O, (va_up (va_up (va_up (va_up R 13 (R 13)) 15 (R 15)) 17 (R 17)) 19 (R 19)), RO, LL, Y) ⟨w_180, (R 13), (R 15), (R 17), (R 19), trivial, rfl⟩ hP hD hS dX9_copy_82
            · replace c_167 := bI_t c_167
              refine lv_aload_n hx hb dX9_copy_55 rfl (lv_at hl 2 rfl) ?_
              refine lv_ldcw (v := (-100002)) hx hb hown hw2 dX9_copy_56 ?_
              refine kM_i (As := [.int (-100002)]) (rest := []) (q0 := 0) ⟨hx, hb, hml, hown, hts⟩ (t_X9_finding l D cy a _ J (va_up I 10 (I 10)) O (va_up (va_up (va_up (va_up R 13 (R 13)) 15 (R 15)) 17 (R 17)) 19 (R 19)) RO LL Y ((-100002) : Int32)   ) (cwV 1 hts gX9_copy_X9_finding rfl rfl rfl (by decide +kernel) ⟨Nat.le_of_ble_eq_true rfl, Nat.le_of_ble_eq_true rfl⟩) hK hN hP hD hS hA rfl rfl rfl hl.1 rfl (Nat.le_of_ble_eq_true rfl) dX9_copy_59 ⟨Nat.le_of_ble_eq_true rfl, Nat.le_of_ble_eq_true rfl⟩ (fun r_181 u H locs hw hP hD hS => ?_)
              obtain ⟨w_182, rfl, rfl⟩ := hw
              have hP : va_P D vwCl (CT cy a J (va_up I 10 w_182) O (va_up (va_up (va_up (va_up R 13 (R 13)) 15 (R 15)) 17 (R 17)) 19 (R 19)) RO (LL ++ Y)) H := hP
              have hD : va_D A (CT cy a J (va_up I 10 w_182) O (va_up (va_up (va_up (va_up R 13 (R 13)) 15 (R 15)) 17 (R 17)) 19 (R 19)) RO (LL ++ Y)) := hD
              exact wret_i hx hb hr hlocks (J, (va_up I 10 w_182), O, (va_up (va_up (va_up (va_up R 13 (R 13)) 15 (R 15)) 17 (R 17)) 19 (R 19)), RO, LL, Y) ⟨w_182, (R 13), (R 15), (R 17), (R 19), trivial, rfl⟩ hP hD hS dX9_copy_62
        · refine wtop_v (y := .ref (a 18)) (by rw [hj_107]; exact congrArg va_rf hRO3) ?_
          refine lv_astore (lv' := [(7, .ref (a 18)), (6, .ref (a 14)), (0, .ref (a 0)), (1, .int x0), (2, .int x1), (3, .int x2), (4, .int x3), (5, .int x4)]) hx hb dX9_copy_37 hl (by decide) rfl (fun ls hl => ?_)
          refine lv_aload hx hb dX9_copy_39 (lv_at hl 1 rfl) ?_
          refine kRa_i (As := []) (rest := []) (q0 := 14) ⟨hx, hb, hml, hown, hts⟩ (t_X6_isMissing14 l D cy a _ J (va_up I 10 (I 10)) O (va_up (va_up (va_up (va_up R 13 (R 13)) 15 (R 15)) 17 (R 17)) 19 (R 19)) RO LL Y   ) (cwV 0 hts gX9_copy_X6_isMissing rfl rfl rfl (by decide +kernel) ⟨Nat.le_of_ble_eq_true rfl, Nat.le_of_ble_eq_true rfl⟩) hK hN hP hD rfl rfl rfl hl.1 rfl (Nat.le_of_ble_eq_true rfl) dX9_copy_41 ⟨Nat.le_of_ble_eq_true rfl, Nat.le_of_ble_eq_true rfl⟩ (fun r_183 hr_184 => ?_)
          obtain ⟨zb_185, rfl⟩ := hr_184
          refine lv_if_ne (tgt := 55) hx hb dX9_copy_44 (by decide) (fun c_186 => ?_) (fun c_186 => ?_)
          · replace c_186 := bI_t c_186
            refine lv_aload_n hx hb dX9_copy_55 rfl (lv_at hl 2 rfl) ?_
            refine lv_ldcw (v := (-100002)) hx hb hown hw2 dX9_copy_56 ?_
            refine kM_i (As := [.int (-100002)]) (rest := []) (q0 := 0) ⟨hx, hb, hml, hown, hts⟩ (t_X9_finding l D cy a _ J (va_up I 10 (I 10)) O (va_up (va_up (va_up (va_up R 13 (R 13)) 15 (R 15)) 17 (R 17)) 19 (R 19)) RO LL Y ((-100002) : Int32)   ) (cwV 1 hts gX9_copy_X9_finding rfl rfl rfl (by decide +kernel) ⟨Nat.le_of_ble_eq_true rfl, Nat.le_of_ble_eq_true rfl⟩) hK hN hP hD hS hA rfl rfl rfl hl.1 rfl (Nat.le_of_ble_eq_true rfl) dX9_copy_59 ⟨Nat.le_of_ble_eq_true rfl, Nat.le_of_ble_eq_true rfl⟩ (fun r_187 u H locs hw hP hD hS => ?_)
            obtain ⟨w_188, rfl, rfl⟩ := hw
            have hP : va_P D vwCl (CT cy a J (va_up I 10 w_188) O (va_up (va_up (va_up (va_up R 13 (R 13)) 15 (R 15)) 17 (R 17)) 19 (R 19)) RO (LL ++ Y)) H := hP
            have hD : va_D A (CT cy a J (va_up I 10 w_188) O (va_up (va_up (va_up (va_up R 13 (R 13)) 15 (R 15)) 17 (R 17)) 19 (R 19)) RO (LL ++ Y)) := hD
            exact wret_i hx hb hr hlocks (J, (va_up I 10 w_188), O, (va_up (va_up (va_up (va_up R 13 (R 13)) 15 (R 15)) 17 (R 17)) 19 (R 19)), RO, LL, Y) ⟨w_188, (R 13), (R 15), (R 17), (R 19), trivial, rfl⟩ hP hD hS dX9_copy_62
          · replace c_186 := bI_f c_186
            refine lv_aload hx hb dX9_copy_47 (lv_at hl 0 rfl) ?_
            refine kRa_i (As := []) (rest := []) (q0 := 18) ⟨hx, hb, hml, hown, hts⟩ (t_X6_isMissing18 l D cy a _ J (va_up I 10 (I 10)) O (va_up (va_up (va_up (va_up R 13 (R 13)) 15 (R 15)) 17 (R 17)) 19 (R 19)) RO LL Y   ) (cwV 0 hts gX9_copy_X6_isMissing rfl rfl rfl (by decide +kernel) ⟨Nat.le_of_ble_eq_true rfl, Nat.le_of_ble_eq_true rfl⟩) hK hN hP hD rfl rfl rfl hl.1 rfl (Nat.le_of_ble_eq_true rfl) dX9_copy_49 ⟨Nat.le_of_ble_eq_true rfl, Nat.le_of_ble_eq_true rfl⟩ (fun r_189 hr_190 => ?_)
            obtain ⟨zb_191, rfl⟩ := hr_190
            refine lv_if_eq (tgt := 63) hx hb dX9_copy_52 (by decide) (fun c_192 => ?_) (fun c_192 => ?_)
            · replace c_192 := bI_f c_192
              refine lv_aload hx hb dX9_copy_63 (lv_at hl 1 rfl) ?_
              refine va_get (D := D) (ci := 5) (v := .int (I 449)) (C := RX6) (T := TX6) (N := 3) hx hb hts hi6 hown hK hP 14 rfl rfl 1 (by decide) hw3 (fun _ h9 => h9) rfl dX9_copy_65 ?_
              refine lv_aload hx hb dX9_copy_68 (lv_at hl 0 rfl) ?_
              refine va_get (D := D) (ci := 5) (v := .int (I 577)) (C := RX6) (T := TX6) (N := 3) hx hb hts hi6 hown hK hP 18 rfl rfl 1 (by decide) hw3 (fun _ h9 => h9) rfl dX9_copy_70 ?_
              refine lv_icmp_eq (tgt := 83) hx hb dX9_copy_73 (by decide) (fun c_193 => ?_) (fun c_193 => ?_)
              · refine lv_aload hx hb dX9_copy_83 (lv_at hl 1 rfl) ?_
                refine lv_iload_n hx hb dX9_copy_85 rfl (lv_at hl 4 rfl) ?_
                refine lv_iload hx hb dX9_copy_86 (lv_at hl 7 rfl) ?_
                refine kRa_i (As := [.int x1, .int x4]) (rest := []) (q0 := 14) ⟨hx, hb, hml, hown, hts⟩ (t_X6_hasRange14 l D cy a _ J (va_up I 10 (I 10)) O (va_up (va_up (va_up (va_up R 13 (R 13)) 15 (R 15)) 17 (R 17)) 19 (R 19)) RO LL Y x1 x4  ) (cwV 2 hts gX9_copy_X6_hasRange rfl rfl rfl (by decide +kernel) ⟨Nat.le_of_ble_eq_true rfl, Nat.le_of_ble_eq_true rfl⟩) hK hN hP hD rfl rfl rfl hl.1 rfl (Nat.le_of_ble_eq_true rfl) dX9_copy_88 ⟨Nat.le_of_ble_eq_true rfl, Nat.le_of_ble_eq_true rfl⟩ (fun r_194 hr_195 => ?_)
                refine lv_if_eq (tgt := 106) hx hb dX9_copy_91 (by decide) (fun c_196 => ?_) (fun c_196 => ?_)
                · refine lv_aload_n hx hb dX9_copy_106 rfl (lv_at hl 2 rfl) ?_
                  refine lv_ldc (v := (-100001)) hx hb hown hw0 dX9_copy_107 ?_
                  refine kM_i (As := [.int (-100001)]) (rest := []) (q0 := 0) ⟨hx, hb, hml, hown, hts⟩ (t_X9_finding l D cy a _ J (va_up I 10 (I 10)) O (va_up (va_up (va_up (va_up R 13 (R 13)) 15 (R 15)) 17 (R 17)) 19 (R 19)) RO LL Y ((-100001) : Int32)   ) (cwV 1 hts gX9_copy_X9_finding rfl rfl rfl (by decide +kernel) ⟨Nat.le_of_ble_eq_true rfl, Nat.le_of_ble_eq_true rfl⟩) hK hN hP hD hS hA rfl rfl rfl hl.1 rfl (Nat.le_of_ble_eq_true rfl) dX9_copy_109 ⟨Nat.le_of_ble_eq_true rfl, Nat.le_of_ble_eq_true rfl⟩ (fun r_197 u H locs hw hP hD hS => ?_)
                  obtain ⟨w_198, rfl, rfl⟩ := hw
                  have hP : va_P D vwCl (CT cy a J (va_up I 10 w_198) O (va_up (va_up (va_up (va_up R 13 (R 13)) 15 (R 15)) 17 (R 17)) 19 (R 19)) RO (LL ++ Y)) H := hP
                  have hD : va_D A (CT cy a J (va_up I 10 w_198) O (va_up (va_up (va_up (va_up R 13 (R 13)) 15 (R 15)) 17 (R 17)) 19 (R 19)) RO (LL ++ Y)) := hD
                  exact wret_i hx hb hr hlocks (J, (va_up I 10 w_198), O, (va_up (va_up (va_up (va_up R 13 (R 13)) 15 (R 15)) 17 (R 17)) 19 (R 19)), RO, LL, Y) ⟨w_198, (R 13), (R 15), (R 17), (R 19), trivial, rfl⟩ hP hD hS dX9_copy_112
                · refine lv_aload hx hb dX9_copy_94 (lv_at hl 0 rfl) ?_
                  refine lv_iload hx hb dX9_copy_96 (lv_at hl 6 rfl) ?_
                  refine lv_iload hx hb dX9_copy_98 (lv_at hl 7 rfl) ?_
                  refine kRa_i (As := [.int x3, .int x4]) (rest := []) (q0 := 18) ⟨hx, hb, hml, hown, hts⟩ (t_X6_hasRange18 l D cy a _ J (va_up I 10 (I 10)) O (va_up (va_up (va_up (va_up R 13 (R 13)) 15 (R 15)) 17 (R 17)) 19 (R 19)) RO LL Y x3 x4  ) (cwV 2 hts gX9_copy_X6_hasRange rfl rfl rfl (by decide +kernel) ⟨Nat.le_of_ble_eq_true rfl, Nat.le_of_ble_eq_true rfl⟩) hK hN hP hD rfl rfl rfl hl.1 rfl (Nat.le_of_ble_eq_true rfl) dX9_copy_100 ⟨Nat.le_of_ble_eq_true rfl, Nat.le_of_ble_eq_true rfl⟩ (fun r_199 hr_200 => ?_)
                  refine lv_if_ne (tgt := 113) hx hb dX9_copy_103 (by decide) (fun c_201 => ?_) (fun c_201 => ?_)
                  · refine lv_aload hx hb dX9_copy_113 (lv_at hl 1 rfl) ?_
                    refine va_get (D := D) (ci := 5) (v := .ref (a 15)) (C := RX6) (T := TX6) (N := 3) hx hb hts hi6 hown hK hP 14 rfl rfl 0 (by decide) hw4 (fun _ h9 => h9) rfl dX9_copy_115 ?_
                    refine lv_iload_n hx hb dX9_copy_118 rfl (lv_at hl 4 rfl) ?_
                    refine lv_aload hx hb dX9_copy_119 (lv_at hl 0 rfl) ?_
                    refine va_get (D := D) (ci := 5) (v := .ref (a 19)) (C := RX6) (T := TX6) (N := 3) hx hb hts hi6 hown hK hP 18 rfl rfl 0 (by decide) hw4 (fun _ h9 => h9) rfl dX9_copy_121 ?_
                    refine lv_iload hx hb dX9_copy_124 (lv_at hl 6 rfl) ?_
                    refine lv_iload hx hb dX9_copy_126 (lv_at hl 7 rfl) ?_
                    refine va_copyi hx hb (by rw [hml]; exact hl.1.symm) hown hw5 hw6 hw7 hw8 hK hP hD hS 15 19 0 0 rfl rfl rfl rfl rfl (hr_195.2 c_196).1 (hr_200.2 c_201).1 (hr_195.2 c_196).2.1 (hr_le hM.2.2.2.2.2.1 (hr_195.2 c_196)) (hr_le hM.2.2.2.2.2.2.2.1 (hr_200.2 c_201)) (fun _ _ => rfl) (Nat.le_of_ble_eq_true rfl) (Nat.le_of_ble_eq_true rfl) dX9_copy_128 (fun H locs hP hD hS => ?_)
                    have hP : va_P D vwCl (CT cy a J (va_up I 10 (I 10)) O (va_up (va_up (va_up (va_up R 13 (R 13)) 15 (R 15)) 17 (R 17)) 19 (va_cpy (R 15) (R 19) x1.toNatClampNeg x3.toNatClampNeg x4.toNatClampNeg)) RO (LL ++ Y)) H := hP
                    have hD : va_D A (CT cy a J (va_up I 10 (I 10)) O (va_up (va_up (va_up (va_up R 13 (R 13)) 15 (R 15)) 17 (R 17)) 19 (va_cpy (R 15) (R 19) x1.toNatClampNeg x3.toNatClampNeg x4.toNatClampNeg)) RO (LL ++ Y)) := hD
                    refine lv_iload hx hb dX9_copy_131 (lv_at hl 7 rfl) ?_
                    exact wret_i hx hb hr hlocks (J, (va_up I 10 (I 10)), O, (va_up (va_up (va_up (va_up R 13 (R 13)) 15 (R 15)) 17 (R 17)) 19 (va_cpy (R 15) (R 19) x1.toNatClampNeg x3.toNatClampNeg x4.toNatClampNeg)), RO, LL, Y) ⟨(I 10), (R 13), (R 15), (R 17), (va_cpy (R 15) (R 19) x1.toNatClampNeg x3.toNatClampNeg x4.toNatClampNeg), trivial, rfl⟩ hP hD hS dX9_copy_133
                  · refine lv_aload_n hx hb dX9_copy_106 rfl (lv_at hl 2 rfl) ?_
                    refine lv_ldc (v := (-100001)) hx hb hown hw0 dX9_copy_107 ?_
                    refine kM_i (As := [.int (-100001)]) (rest := []) (q0 := 0) ⟨hx, hb, hml, hown, hts⟩ (t_X9_finding l D cy a _ J (va_up I 10 (I 10)) O (va_up (va_up (va_up (va_up R 13 (R 13)) 15 (R 15)) 17 (R 17)) 19 (R 19)) RO LL Y ((-100001) : Int32)   ) (cwV 1 hts gX9_copy_X9_finding rfl rfl rfl (by decide +kernel) ⟨Nat.le_of_ble_eq_true rfl, Nat.le_of_ble_eq_true rfl⟩) hK hN hP hD hS hA rfl rfl rfl hl.1 rfl (Nat.le_of_ble_eq_true rfl) dX9_copy_109 ⟨Nat.le_of_ble_eq_true rfl, Nat.le_of_ble_eq_true rfl⟩ (fun r_202 u H locs hw hP hD hS => ?_)
                    obtain ⟨w_203, rfl, rfl⟩ := hw
                    have hP : va_P D vwCl (CT cy a J (va_up I 10 w_203) O (va_up (va_up (va_up (va_up R 13 (R 13)) 15 (R 15)) 17 (R 17)) 19 (R 19)) RO (LL ++ Y)) H := hP
                    have hD : va_D A (CT cy a J (va_up I 10 w_203) O (va_up (va_up (va_up (va_up R 13 (R 13)) 15 (R 15)) 17 (R 17)) 19 (R 19)) RO (LL ++ Y)) := hD
                    exact wret_i hx hb hr hlocks (J, (va_up I 10 w_203), O, (va_up (va_up (va_up (va_up R 13 (R 13)) 15 (R 15)) 17 (R 17)) 19 (R 19)), RO, LL, Y) ⟨w_203, (R 13), (R 15), (R 17), (R 19), trivial, rfl⟩ hP hD hS dX9_copy_112
              · refine lv_aload_n hx hb dX9_copy_76 rfl (lv_at hl 2 rfl) ?_
                refine lv_ldc (v := (-100004)) hx hb hown hw9 dX9_copy_77 ?_
                refine kM_i (As := [.int (-100004)]) (rest := []) (q0 := 0) ⟨hx, hb, hml, hown, hts⟩ (t_X9_finding l D cy a _ J (va_up I 10 (I 10)) O (va_up (va_up (va_up (va_up R 13 (R 13)) 15 (R 15)) 17 (R 17)) 19 (R 19)) RO LL Y ((-100004) : Int32)   ) (cwV 1 hts gX9_copy_X9_finding rfl rfl rfl (by decide +kernel) ⟨Nat.le_of_ble_eq_true rfl, Nat.le_of_ble_eq_true rfl⟩) hK hN hP hD hS hA rfl rfl rfl hl.1 rfl (Nat.le_of_ble_eq_true rfl) dX9_copy_79 ⟨Nat.le_of_ble_eq_true rfl, Nat.le_of_ble_eq_true rfl⟩ (fun r_204 u H locs hw hP hD hS => ?_)
                obtain ⟨w_205, rfl, rfl⟩ := hw
                have hP : va_P D vwCl (CT cy a J (va_up I 10 w_205) O (va_up (va_up (va_up (va_up R 13 (R 13)) 15 (R 15)) 17 (R 17)) 19 (R 19)) RO (LL ++ Y)) H := hP
                have hD : va_D A (CT cy a J (va_up I 10 w_205) O (va_up (va_up (va_up (va_up R 13 (R 13)) 15 (R 15)) 17 (R 17)) 19 (R 19)) RO (LL ++ Y)) := hD
                exact wret_i hx hb hr hlocks (J, (va_up I 10 w_205), O, (va_up (va_up (va_up (va_up R 13 (R 13)) 15 (R 15)) 17 (R 17)) 19 (R 19)), RO, LL, Y) ⟨w_205, (R 13), (R 15), (R 17), (R 19), trivial, rfl⟩ hP hD hS dX9_copy_82
            · replace c_192 := bI_t c_192
              refine lv_aload_n hx hb dX9_copy_55 rfl (lv_at hl 2 rfl) ?_
              refine lv_ldcw (v := (-100002)) hx hb hown hw2 dX9_copy_56 ?_
              refine kM_i (As := [.int (-100002)]) (rest := []) (q0 := 0) ⟨hx, hb, hml, hown, hts⟩ (t_X9_finding l D cy a _ J (va_up I 10 (I 10)) O (va_up (va_up (va_up (va_up R 13 (R 13)) 15 (R 15)) 17 (R 17)) 19 (R 19)) RO LL Y ((-100002) : Int32)   ) (cwV 1 hts gX9_copy_X9_finding rfl rfl rfl (by decide +kernel) ⟨Nat.le_of_ble_eq_true rfl, Nat.le_of_ble_eq_true rfl⟩) hK hN hP hD hS hA rfl rfl rfl hl.1 rfl (Nat.le_of_ble_eq_true rfl) dX9_copy_59 ⟨Nat.le_of_ble_eq_true rfl, Nat.le_of_ble_eq_true rfl⟩ (fun r_206 u H locs hw hP hD hS => ?_)
              obtain ⟨w_207, rfl, rfl⟩ := hw
              have hP : va_P D vwCl (CT cy a J (va_up I 10 w_207) O (va_up (va_up (va_up (va_up R 13 (R 13)) 15 (R 15)) 17 (R 17)) 19 (R 19)) RO (LL ++ Y)) H := hP
              have hD : va_D A (CT cy a J (va_up I 10 w_207) O (va_up (va_up (va_up (va_up R 13 (R 13)) 15 (R 15)) 17 (R 17)) 19 (R 19)) RO (LL ++ Y)) := hD
              exact wret_i hx hb hr hlocks (J, (va_up I 10 w_207), O, (va_up (va_up (va_up (va_up R 13 (R 13)) 15 (R 15)) 17 (R 17)) 19 (R 19)), RO, LL, Y) ⟨w_207, (R 13), (R 15), (R 17), (R 19), trivial, rfl⟩ hP hD hS dX9_copy_62
      · refine wtop_v (y := .ref (a 16)) (by rw [hj_5]; exact congrArg va_rf hRO2) ?_
        refine lv_astore (lv' := [(6, .ref (a 16)), (0, .ref (a 0)), (1, .int x0), (2, .int x1), (3, .int x2), (4, .int x3), (5, .int x4)]) hx hb dX9_copy_29 hl (by decide) rfl (fun ls hl => ?_)
        refine lv_aload_n hx hb dX9_copy_31 rfl (lv_at hl 1 rfl) ?_
        refine va_get (D := D) (ci := 8) (v := .ref (a 1)) (C := RX9) (T := TX9) (N := 11) hx hb hts hi9 hown hK hP 0 rfl rfl 0 (by decide) hw1 (fun _ h9 => h9) rfl dX9_copy_32 ?_
        refine lv_iload_n hx hb dX9_copy_35 rfl (lv_at hl 4 rfl) ?_
        refine va_aldq hx hb hK hP 1 4 rfl rfl (within_in4 c_4) dX9_copy_36 ?_
        rcases in4 (within_in4 c_4) with hj_208 | hj_208 | hj_208 | hj_208
        · refine wtop_v (y := .ref (a 12)) (by rw [hj_208]; exact congrArg va_rf hRO0) ?_
          refine lv_astore (lv' := [(7, .ref (a 12)), (6, .ref (a 16)), (0, .ref (a 0)), (1, .int x0), (2, .int x1), (3, .int x2), (4, .int x3), (5, .int x4)]) hx hb dX9_copy_37 hl (by decide) rfl (fun ls hl => ?_)
          refine lv_aload hx hb dX9_copy_39 (lv_at hl 1 rfl) ?_
          refine kRa_i (As := []) (rest := []) (q0 := 16) ⟨hx, hb, hml, hown, hts⟩ (t_X6_isMissing16 l D cy a _ J (va_up I 10 (I 10)) O (va_up (va_up (va_up (va_up R 13 (R 13)) 15 (R 15)) 17 (R 17)) 19 (R 19)) RO LL Y   ) (cwV 0 hts gX9_copy_X6_isMissing rfl rfl rfl (by decide +kernel) ⟨Nat.le_of_ble_eq_true rfl, Nat.le_of_ble_eq_true rfl⟩) hK hN hP hD rfl rfl rfl hl.1 rfl (Nat.le_of_ble_eq_true rfl) dX9_copy_41 ⟨Nat.le_of_ble_eq_true rfl, Nat.le_of_ble_eq_true rfl⟩ (fun r_209 hr_210 => ?_)
          obtain ⟨zb_211, rfl⟩ := hr_210
          refine lv_if_ne (tgt := 55) hx hb dX9_copy_44 (by decide) (fun c_212 => ?_) (fun c_212 => ?_)
          · replace c_212 := bI_t c_212
            refine lv_aload_n hx hb dX9_copy_55 rfl (lv_at hl 2 rfl) ?_
            refine lv_ldcw (v := (-100002)) hx hb hown hw2 dX9_copy_56 ?_
            refine kM_i (As := [.int (-100002)]) (rest := []) (q0 := 0) ⟨hx, hb, hml, hown, hts⟩ (t_X9_finding l D cy a _ J (va_up I 10 (I 10)) O (va_up (va_up (va_up (va_up R 13 (R 13)) 15 (R 15)) 17 (R 17)) 19 (R 19)) RO LL Y ((-100002) : Int32)   ) (cwV 1 hts gX9_copy_X9_finding rfl rfl rfl (by decide +kernel) ⟨Nat.le_of_ble_eq_true rfl, Nat.le_of_ble_eq_true rfl⟩) hK hN hP hD hS hA rfl rfl rfl hl.1 rfl (Nat.le_of_ble_eq_true rfl) dX9_copy_59 ⟨Nat.le_of_ble_eq_true rfl, Nat.le_of_ble_eq_true rfl⟩ (fun r_213 u H locs hw hP hD hS => ?_)
            obtain ⟨w_214, rfl, rfl⟩ := hw
            have hP : va_P D vwCl (CT cy a J (va_up I 10 w_214) O (va_up (va_up (va_up (va_up R 13 (R 13)) 15 (R 15)) 17 (R 17)) 19 (R 19)) RO (LL ++ Y)) H := hP
            have hD : va_D A (CT cy a J (va_up I 10 w_214) O (va_up (va_up (va_up (va_up R 13 (R 13)) 15 (R 15)) 17 (R 17)) 19 (R 19)) RO (LL ++ Y)) := hD
            exact wret_i hx hb hr hlocks (J, (va_up I 10 w_214), O, (va_up (va_up (va_up (va_up R 13 (R 13)) 15 (R 15)) 17 (R 17)) 19 (R 19)), RO, LL, Y) ⟨w_214, (R 13), (R 15), (R 17), (R 19), trivial, rfl⟩ hP hD hS dX9_copy_62
          · replace c_212 := bI_f c_212
            refine lv_aload hx hb dX9_copy_47 (lv_at hl 0 rfl) ?_
            refine kRa_i (As := []) (rest := []) (q0 := 12) ⟨hx, hb, hml, hown, hts⟩ (t_X6_isMissing12 l D cy a _ J (va_up I 10 (I 10)) O (va_up (va_up (va_up (va_up R 13 (R 13)) 15 (R 15)) 17 (R 17)) 19 (R 19)) RO LL Y   ) (cwV 0 hts gX9_copy_X6_isMissing rfl rfl rfl (by decide +kernel) ⟨Nat.le_of_ble_eq_true rfl, Nat.le_of_ble_eq_true rfl⟩) hK hN hP hD rfl rfl rfl hl.1 rfl (Nat.le_of_ble_eq_true rfl) dX9_copy_49 ⟨Nat.le_of_ble_eq_true rfl, Nat.le_of_ble_eq_true rfl⟩ (fun r_215 hr_216 => ?_)
            obtain ⟨zb_217, rfl⟩ := hr_216
            refine lv_if_eq (tgt := 63) hx hb dX9_copy_52 (by decide) (fun c_218 => ?_) (fun c_218 => ?_)
            · replace c_218 := bI_f c_218
              refine lv_aload hx hb dX9_copy_63 (lv_at hl 1 rfl) ?_
              refine va_get (D := D) (ci := 5) (v := .int (I 513)) (C := RX6) (T := TX6) (N := 3) hx hb hts hi6 hown hK hP 16 rfl rfl 1 (by decide) hw3 (fun _ h9 => h9) rfl dX9_copy_65 ?_
              refine lv_aload hx hb dX9_copy_68 (lv_at hl 0 rfl) ?_
              refine va_get (D := D) (ci := 5) (v := .int (I 385)) (C := RX6) (T := TX6) (N := 3) hx hb hts hi6 hown hK hP 12 rfl rfl 1 (by decide) hw3 (fun _ h9 => h9) rfl dX9_copy_70 ?_
              refine lv_icmp_eq (tgt := 83) hx hb dX9_copy_73 (by decide) (fun c_219 => ?_) (fun c_219 => ?_)
              · refine lv_aload hx hb dX9_copy_83 (lv_at hl 1 rfl) ?_
                refine lv_iload_n hx hb dX9_copy_85 rfl (lv_at hl 4 rfl) ?_
                refine lv_iload hx hb dX9_copy_86 (lv_at hl 7 rfl) ?_
                refine kRa_i (As := [.int x1, .int x4]) (rest := []) (q0 := 16) ⟨hx, hb, hml, hown, hts⟩ (t_X6_hasRange16 l D cy a _ J (va_up I 10 (I 10)) O (va_up (va_up (va_up (va_up R 13 (R 13)) 15 (R 15)) 17 (R 17)) 19 (R 19)) RO LL Y x1 x4  ) (cwV 2 hts gX9_copy_X6_hasRange rfl rfl rfl (by decide +kernel) ⟨Nat.le_of_ble_eq_true rfl, Nat.le_of_ble_eq_true rfl⟩) hK hN hP hD rfl rfl rfl hl.1 rfl (Nat.le_of_ble_eq_true rfl) dX9_copy_88 ⟨Nat.le_of_ble_eq_true rfl, Nat.le_of_ble_eq_true rfl⟩ (fun r_220 hr_221 => ?_)
                refine lv_if_eq (tgt := 106) hx hb dX9_copy_91 (by decide) (fun c_222 => ?_) (fun c_222 => ?_)
                · refine lv_aload_n hx hb dX9_copy_106 rfl (lv_at hl 2 rfl) ?_
                  refine lv_ldc (v := (-100001)) hx hb hown hw0 dX9_copy_107 ?_
                  refine kM_i (As := [.int (-100001)]) (rest := []) (q0 := 0) ⟨hx, hb, hml, hown, hts⟩ (t_X9_finding l D cy a _ J (va_up I 10 (I 10)) O (va_up (va_up (va_up (va_up R 13 (R 13)) 15 (R 15)) 17 (R 17)) 19 (R 19)) RO LL Y ((-100001) : Int32)   ) (cwV 1 hts gX9_copy_X9_finding rfl rfl rfl (by decide +kernel) ⟨Nat.le_of_ble_eq_true rfl, Nat.le_of_ble_eq_true rfl⟩) hK hN hP hD hS hA rfl rfl rfl hl.1 rfl (Nat.le_of_ble_eq_true rfl) dX9_copy_109 ⟨Nat.le_of_ble_eq_true rfl, Nat.le_of_ble_eq_true rfl⟩ (fun r_223 u H locs hw hP hD hS => ?_)
                  obtain ⟨w_224, rfl, rfl⟩ := hw
                  have hP : va_P D vwCl (CT cy a J (va_up I 10 w_224) O (va_up (va_up (va_up (va_up R 13 (R 13)) 15 (R 15)) 17 (R 17)) 19 (R 19)) RO (LL ++ Y)) H := hP
                  have hD : va_D A (CT cy a J (va_up I 10 w_224) O (va_up (va_up (va_up (va_up R 13 (R 13)) 15 (R 15)) 17 (R 17)) 19 (R 19)) RO (LL ++ Y)) := hD
                  exact wret_i hx hb hr hlocks (J, (va_up I 10 w_224), O, (va_up (va_up (va_up (va_up R 13 (R 13)) 15 (R 15)) 17 (R 17)) 19 (R 19)), RO, LL, Y) ⟨w_224, (R 13), (R 15), (R 17), (R 19), trivial, rfl⟩ hP hD hS dX9_copy_112
                · refine lv_aload hx hb dX9_copy_94 (lv_at hl 0 rfl) ?_
                  refine lv_iload hx hb dX9_copy_96 (lv_at hl 6 rfl) ?_
                  refine lv_iload hx hb dX9_copy_98 (lv_at hl 7 rfl) ?_
                  refine kRa_i (As := [.int x3, .int x4]) (rest := []) (q0 := 12) ⟨hx, hb, hml, hown, hts⟩ (t_X6_hasRange12 l D cy a _ J (va_up I 10 (I 10)) O (va_up (va_up (va_up (va_up R 13 (R 13)) 15 (R 15)) 17 (R 17)) 19 (R 19)) RO LL Y x3 x4  ) (cwV 2 hts gX9_copy_X6_hasRange rfl rfl rfl (by decide +kernel) ⟨Nat.le_of_ble_eq_true rfl, Nat.le_of_ble_eq_true rfl⟩) hK hN hP hD rfl rfl rfl hl.1 rfl (Nat.le_of_ble_eq_true rfl) dX9_copy_100 ⟨Nat.le_of_ble_eq_true rfl, Nat.le_of_ble_eq_true rfl⟩ (fun r_225 hr_226 => ?_)
                  refine lv_if_ne (tgt := 113) hx hb dX9_copy_103 (by decide) (fun c_227 => ?_) (fun c_227 => ?_)
                  · refine lv_aload hx hb dX9_copy_113 (lv_at hl 1 rfl) ?_
                    refine va_get (D := D) (ci := 5) (v := .ref (a 17)) (C := RX6) (T := TX6) (N := 3) hx hb hts hi6 hown hK hP 16 rfl rfl 0 (by decide) hw4 (fun _ h9 => h9) rfl dX9_copy_115 ?_
                    refine lv_iload_n hx hb dX9_copy_118 rfl (lv_at hl 4 rfl) ?_
                    refine lv_aload hx hb dX9_copy_119 (lv_at hl 0 rfl) ?_
                    refine va_get (D := D) (ci := 5) (v := .ref (a 13)) (C := RX6) (T := TX6) (N := 3) hx hb hts hi6 hown hK hP 12 rfl rfl 0 (by decide) hw4 (fun _ h9 => h9) rfl dX9_copy_121 ?_
                    refine lv_iload hx hb dX9_copy_124 (lv_at hl 6 rfl) ?_
                    refine lv_iload hx hb dX9_copy_126 (lv_at hl 7 rfl) ?_
                    refine va_copyi hx hb (by rw [hml]; exact hl.1.symm) hown hw5 hw6 hw7 hw8 hK hP hD hS 17 13 0 0 rfl rfl rfl rfl rfl (hr_221.2 c_222).1 (hr_226.2 c_227).1 (hr_221.2 c_222).2.1 (hr_le hM.2.2.2.2.2.2.1 (hr_221.2 c_222)) (hr_le hM.2.2.2.2.1 (hr_226.2 c_227)) (fun _ _ => rfl) (Nat.le_of_ble_eq_true rfl) (Nat.le_of_ble_eq_true rfl) dX9_copy_128 (fun H locs hP hD hS => ?_)
                    have hP : va_P D vwCl (CT cy a J (va_up I 10 (I 10)) O (va_up (va_up (va_up (va_up R 13 (va_cpy (R 17) (R 13) x1.toNatClampNeg x3.toNatClampNeg x4.toNatClampNeg)) 15 (R 15)) 17 (R 17)) 19 (R 19)) RO (LL ++ Y)) H := hP
                    have hD : va_D A (CT cy a J (va_up I 10 (I 10)) O (va_up (va_up (va_up (va_up R 13 (va_cpy (R 17) (R 13) x1.toNatClampNeg x3.toNatClampNeg x4.toNatClampNeg)) 15 (R 15)) 17 (R 17)) 19 (R 19)) RO (LL ++ Y)) := hD
                    refine lv_iload hx hb dX9_copy_131 (lv_at hl 7 rfl) ?_
                    exact wret_i hx hb hr hlocks (J, (va_up I 10 (I 10)), O, (va_up (va_up (va_up (va_up R 13 (va_cpy (R 17) (R 13) x1.toNatClampNeg x3.toNatClampNeg x4.toNatClampNeg)) 15 (R 15)) 17 (R 17)) 19 (R 19)), RO, LL, Y) ⟨(I 10), (va_cpy (R 17) (R 13) x1.toNatClampNeg x3.toNatClampNeg x4.toNatClampNeg), (R 15), (R 17), (R 19), trivial, rfl⟩ hP hD hS dX9_copy_133
                  · refine lv_aload_n hx hb dX9_copy_106 rfl (lv_at hl 2 rfl) ?_
                    refine lv_ldc (v := (-100001)) hx hb hown hw0 dX9_copy_107 ?_
                    refine kM_i (As := [.int (-100001)]) (rest := []) (q0 := 0) ⟨hx, hb, hml, hown, hts⟩ (t_X9_finding l D cy a _ J (va_up I 10 (I 10)) O (va_up (va_up (va_up (va_up R 13 (R 13)) 15 (R 15)) 17 (R 17)) 19 (R 19)) RO LL Y ((-100001) : Int32)   ) (cwV 1 hts gX9_copy_X9_finding rfl rfl rfl (by decide +kernel) ⟨Nat.le_of_ble_eq_true rfl, Nat.le_of_ble_eq_true rfl⟩) hK hN hP hD hS hA rfl rfl rfl hl.1 rfl (Nat.le_of_ble_eq_true rfl) dX9_copy_109 ⟨Nat.le_of_ble_eq_true rfl, Nat.le_of_ble_eq_true rfl⟩ (fun r_228 u H locs hw hP hD hS => ?_)
                    obtain ⟨w_229, rfl, rfl⟩ := hw
                    have hP : va_P D vwCl (CT cy a J (va_up I 10 w_229) O (va_up (va_up (va_up (va_up R 13 (R 13)) 15 (R 15)) 17 (R 17)) 19 (R 19)) RO (LL ++ Y)) H := hP
                    have hD : va_D A (CT cy a J (va_up I 10 w_229) O (va_up (va_up (va_up (va_up R 13 (R 13)) 15 (R 15)) 17 (R 17)) 19 (R 19)) RO (LL ++ Y)) := hD
                    exact wret_i hx hb hr hlocks (J, (va_up I 10 w_229), O, (va_up (va_up (va_up (va_up R 13 (R 13)) 15 (R 15)) 17 (R 17)) 19 (R 19)), RO, LL, Y) ⟨w_229, (R 13), (R 15), (R 17), (R 19), trivial, rfl⟩ hP hD hS dX9_copy_112
              · refine lv_aload_n hx hb dX9_copy_76 rfl (lv_at hl 2 rfl) ?_
                refine lv_ldc (v := (-100004)) hx hb hown hw9 dX9_copy_77 ?_
                refine kM_i (As := [.int (-100004)]) (rest := []) (q0 := 0) ⟨hx, hb, hml, hown, hts⟩ (t_X9_finding l D cy a _ J (va_up I 10 (I 10)) O (va_up (va_up (va_up (va_up R 13 (R 13)) 15 (R 15)) 17 (R 17)) 19 (R 19)) RO LL Y ((-100004) : Int32)   ) (cwV 1 hts gX9_copy_X9_finding rfl rfl rfl (by decide +kernel) ⟨Nat.le_of_ble_eq_true rfl, Nat.le_of_ble_eq_true rfl⟩) hK hN hP hD hS hA rfl rfl rfl hl.1 rfl (Nat.le_of_ble_eq_true rfl) dX9_copy_79 ⟨Nat.le_of_ble_eq_true rfl, Nat.le_of_ble_eq_true rfl⟩ (fun r_230 u H locs hw hP hD hS => ?_)
                obtain ⟨w_231, rfl, rfl⟩ := hw
                have hP : va_P D vwCl (CT cy a J (va_up I 10 w_231) O (va_up (va_up (va_up (va_up R 13 (R 13)) 15 (R 15)) 17 (R 17)) 19 (R 19)) RO (LL ++ Y)) H := hP
                have hD : va_D A (CT cy a J (va_up I 10 w_231) O (va_up (va_up (va_up (va_up R 13 (R 13)) 15 (R 15)) 17 (R 17)) 19 (R 19)) RO (LL ++ Y)) := hD
                exact wret_i hx hb hr hlocks (J, (va_up I 10 w_231), O, (va_up (va_up (va_up (va_up R 13 (R 13)) 15 (R 15)) 17 (R 17)) 19 (R 19)), RO, LL, Y) ⟨w_231, (R 13), (R 15), (R 17), (R 19), trivial, rfl⟩ hP hD hS dX9_copy_82
            · replace c_218 := bI_t c_218
              refine lv_aload_n hx hb dX9_copy_55 rfl (lv_at hl 2 rfl) ?_
              refine lv_ldcw (v := (-100002)) hx hb hown hw2 dX9_copy_56 ?_
              refine kM_i (As := [.int (-100002)]) (rest := []) (q0 := 0) ⟨hx, hb, hml, hown, hts⟩ (t_X9_finding l D cy a _ J (va_up I 10 (I 10)) O (va_up (va_up (va_up (va_up R 13 (R 13)) 15 (R 15)) 17 (R 17)) 19 (R 19)) RO LL Y ((-100002) : Int32)   ) (cwV 1 hts gX9_copy_X9_finding rfl rfl rfl (by decide +kernel) ⟨Nat.le_of_ble_eq_true rfl, Nat.le_of_ble_eq_true rfl⟩) hK hN hP hD hS hA rfl rfl rfl hl.1 rfl (Nat.le_of_ble_eq_true rfl) dX9_copy_59 ⟨Nat.le_of_ble_eq_true rfl, Nat.le_of_ble_eq_true rfl⟩ (fun r_232 u H locs hw hP hD hS => ?_)
              obtain ⟨w_233, rfl, rfl⟩ := hw
              have hP : va_P D vwCl (CT cy a J (va_up I 10 w_233) O (va_up (va_up (va_up (va_up R 13 (R 13)) 15 (R 15)) 17 (R 17)) 19 (R 19)) RO (LL ++ Y)) H := hP
              have hD : va_D A (CT cy a J (va_up I 10 w_233) O (va_up (va_up (va_up (va_up R 13 (R 13)) 15 (R 15)) 17 (R 17)) 19 (R 19)) RO (LL ++ Y)) := hD
              exact wret_i hx hb hr hlocks (J, (va_up I 10 w_233), O, (va_up (va_up (va_up (va_up R 13 (R 13)) 15 (R 15)) 17 (R 17)) 19 (R 19)), RO, LL, Y) ⟨w_233, (R 13), (R 15), (R 17), (R 19), trivial, rfl⟩ hP hD hS dX9_copy_62
        · refine wtop_v (y := .ref (a 14)) (by rw [hj_208]; exact congrArg va_rf hRO1) ?_
          refine lv_astore (lv' := [(7, .ref (a 14)), (6, .ref (a 16)), (0, .ref (a 0)), (1, .int x0), (2, .int x1), (3, .int x2), (4, .int x3), (5, .int x4)]) hx hb dX9_copy_37 hl (by decide) rfl (fun ls hl => ?_)
          refine lv_aload hx hb dX9_copy_39 (lv_at hl 1 rfl) ?_
          refine kRa_i (As := []) (rest := []) (q0 := 16) ⟨hx, hb, hml, hown, hts⟩ (t_X6_isMissing16 l D cy a _ J (va_up I 10 (I 10)) O (va_up (va_up (va_up (va_up R 13 (R 13)) 15 (R 15)) 17 (R 17)) 19 (R 19)) RO LL Y   ) (cwV 0 hts gX9_copy_X6_isMissing rfl rfl rfl (by decide +kernel) ⟨Nat.le_of_ble_eq_true rfl, Nat.le_of_ble_eq_true rfl⟩) hK hN hP hD rfl rfl rfl hl.1 rfl (Nat.le_of_ble_eq_true rfl) dX9_copy_41 ⟨Nat.le_of_ble_eq_true rfl, Nat.le_of_ble_eq_true rfl⟩ (fun r_234 hr_235 => ?_)
          obtain ⟨zb_236, rfl⟩ := hr_235
          refine lv_if_ne (tgt := 55) hx hb dX9_copy_44 (by decide) (fun c_237 => ?_) (fun c_237 => ?_)
          · replace c_237 := bI_t c_237
            refine lv_aload_n hx hb dX9_copy_55 rfl (lv_at hl 2 rfl) ?_
            refine lv_ldcw (v := (-100002)) hx hb hown hw2 dX9_copy_56 ?_
            refine kM_i (As := [.int (-100002)]) (rest := []) (q0 := 0) ⟨hx, hb, hml, hown, hts⟩ (t_X9_finding l D cy a _ J (va_up I 10 (I 10)) O (va_up (va_up (va_up (va_up R 13 (R 13)) 15 (R 15)) 17 (R 17)) 19 (R 19)) RO LL Y ((-100002) : Int32)   ) (cwV 1 hts gX9_copy_X9_finding rfl rfl rfl (by decide +kernel) ⟨Nat.le_of_ble_eq_true rfl, Nat.le_of_ble_eq_true rfl⟩) hK hN hP hD hS hA rfl rfl rfl hl.1 rfl (Nat.le_of_ble_eq_true rfl) dX9_copy_59 ⟨Nat.le_of_ble_eq_true rfl, Nat.le_of_ble_eq_true rfl⟩ (fun r_238 u H locs hw hP hD hS => ?_)
            obtain ⟨w_239, rfl, rfl⟩ := hw
            have hP : va_P D vwCl (CT cy a J (va_up I 10 w_239) O (va_up (va_up (va_up (va_up R 13 (R 13)) 15 (R 15)) 17 (R 17)) 19 (R 19)) RO (LL ++ Y)) H := hP
            have hD : va_D A (CT cy a J (va_up I 10 w_239) O (va_up (va_up (va_up (va_up R 13 (R 13)) 15 (R 15)) 17 (R 17)) 19 (R 19)) RO (LL ++ Y)) := hD
            exact wret_i hx hb hr hlocks (J, (va_up I 10 w_239), O, (va_up (va_up (va_up (va_up R 13 (R 13)) 15 (R 15)) 17 (R 17)) 19 (R 19)), RO, LL, Y) ⟨w_239, (R 13), (R 15), (R 17), (R 19), trivial, rfl⟩ hP hD hS dX9_copy_62
          · replace c_237 := bI_f c_237
            refine lv_aload hx hb dX9_copy_47 (lv_at hl 0 rfl) ?_
            refine kRa_i (As := []) (rest := []) (q0 := 14) ⟨hx, hb, hml, hown, hts⟩ (t_X6_isMissing14 l D cy a _ J (va_up I 10 (I 10)) O (va_up (va_up (va_up (va_up R 13 (R 13)) 15 (R 15)) 17 (R 17)) 19 (R 19)) RO LL Y   ) (cwV 0 hts gX9_copy_X6_isMissing rfl rfl rfl (by decide +kernel) ⟨Nat.le_of_ble_eq_true rfl, Nat.le_of_ble_eq_true rfl⟩) hK hN hP hD rfl rfl rfl hl.1 rfl (Nat.le_of_ble_eq_true rfl) dX9_copy_49 ⟨Nat.le_of_ble_eq_true rfl, Nat.le_of_ble_eq_true rfl⟩ (fun r_240 hr_241 => ?_)
            obtain ⟨zb_242, rfl⟩ := hr_241
            refine lv_if_eq (tgt := 63) hx hb dX9_copy_52 (by decide) (fun c_243 => ?_) (fun c_243 => ?_)
            · replace c_243 := bI_f c_243
              refine lv_aload hx hb dX9_copy_63 (lv_at hl 1 rfl) ?_
              refine va_get (D := D) (ci := 5) (v := .int (I 513)) (C := RX6) (T := TX6) (N := 3) hx hb hts hi6 hown hK hP 16 rfl rfl 1 (by decide) hw3 (fun _ h9 => h9) rfl dX9_copy_65 ?_
              refine lv_aload hx hb dX9_copy_68 (lv_at hl 0 rfl) ?_
              refine va_get (D := D) (ci := 5) (v := .int (I 449)) (C := RX6) (T := TX6) (N := 3) hx hb hts hi6 hown hK hP 14 rfl rfl 1 (by decide) hw3 (fun _ h9 => h9) rfl dX9_copy_70 ?_
              refine lv_icmp_eq (tgt := 83) hx hb dX9_copy_73 (by decide) (fun c_244 => ?_) (fun c_244 => ?_)
              · refine lv_aload hx hb dX9_copy_83 (lv_at hl 1 rfl) ?_
                refine lv_iload_n hx hb dX9_copy_85 rfl (lv_at hl 4 rfl) ?_
                refine lv_iload hx hb dX9_copy_86 (lv_at hl 7 rfl) ?_
                refine kRa_i (As := [.int x1, .int x4]) (rest := []) (q0 := 16) ⟨hx, hb, hml, hown, hts⟩ (t_X6_hasRange16 l D cy a _ J (va_up I 10 (I 10)) O (va_up (va_up (va_up (va_up R 13 (R 13)) 15 (R 15)) 17 (R 17)) 19 (R 19)) RO LL Y x1 x4  ) (cwV 2 hts gX9_copy_X6_hasRange rfl rfl rfl (by decide +kernel) ⟨Nat.le_of_ble_eq_true rfl, Nat.le_of_ble_eq_true rfl⟩) hK hN hP hD rfl rfl rfl hl.1 rfl (Nat.le_of_ble_eq_true rfl) dX9_copy_88 ⟨Nat.le_of_ble_eq_true rfl, Nat.le_of_ble_eq_true rfl⟩ (fun r_245 hr_246 => ?_)
                refine lv_if_eq (tgt := 106) hx hb dX9_copy_91 (by decide) (fun c_247 => ?_) (fun c_247 => ?_)
                · refine lv_aload_n hx hb dX9_copy_106 rfl (lv_at hl 2 rfl) ?_
                  refine lv_ldc (v := (-100001)) hx hb hown hw0 dX9_copy_107 ?_
                  refine kM_i (As := [.int (-100001)]) (rest := []) (q0 := 0) ⟨hx, hb, hml, hown, hts⟩ (t_X9_finding l D cy a _ J (va_up I 10 (I 10)) O (va_up (va_up (va_up (va_up R 13 (R 13)) 15 (R 15)) 17 (R 17)) 19 (R 19)) RO LL Y ((-100001) : Int32)   ) (cwV 1 hts gX9_copy_X9_finding rfl rfl rfl (by decide +kernel) ⟨Nat.le_of_ble_eq_true rfl, Nat.le_of_ble_eq_true rfl⟩) hK hN hP hD hS hA rfl rfl rfl hl.1 rfl (Nat.le_of_ble_eq_true rfl) dX9_copy_109 ⟨Nat.le_of_ble_eq_true rfl, Nat.le_of_ble_eq_true rfl⟩ (fun r_248 u H locs hw hP hD hS => ?_)
                  obtain ⟨w_249, rfl, rfl⟩ := hw
                  have hP : va_P D vwCl (CT cy a J (va_up I 10 w_249) O (va_up (va_up (va_up (va_up R 13 (R 13)) 15 (R 15)) 17 (R 17)) 19 (R 19)) RO (LL ++ Y)) H := hP
                  have hD : va_D A (CT cy a J (va_up I 10 w_249) O (va_up (va_up (va_up (va_up R 13 (R 13)) 15 (R 15)) 17 (R 17)) 19 (R 19)) RO (LL ++ Y)) := hD
                  exact wret_i hx hb hr hlocks (J, (va_up I 10 w_249), O, (va_up (va_up (va_up (va_up R 13 (R 13)) 15 (R 15)) 17 (R 17)) 19 (R 19)), RO, LL, Y) ⟨w_249, (R 13), (R 15), (R 17), (R 19), trivial, rfl⟩ hP hD hS dX9_copy_112
                · refine lv_aload hx hb dX9_copy_94 (lv_at hl 0 rfl) ?_
                  refine lv_iload hx hb dX9_copy_96 (lv_at hl 6 rfl) ?_
                  refine lv_iload hx hb dX9_copy_98 (lv_at hl 7 rfl) ?_
                  refine kRa_i (As := [.int x3, .int x4]) (rest := []) (q0 := 14) ⟨hx, hb, hml, hown, hts⟩ (t_X6_hasRange14 l D cy a _ J (va_up I 10 (I 10)) O (va_up (va_up (va_up (va_up R 13 (R 13)) 15 (R 15)) 17 (R 17)) 19 (R 19)) RO LL Y x3 x4  ) (cwV 2 hts gX9_copy_X6_hasRange rfl rfl rfl (by decide +kernel) ⟨Nat.le_of_ble_eq_true rfl, Nat.le_of_ble_eq_true rfl⟩) hK hN hP hD rfl rfl rfl hl.1 rfl (Nat.le_of_ble_eq_true rfl) dX9_copy_100 ⟨Nat.le_of_ble_eq_true rfl, Nat.le_of_ble_eq_true rfl⟩ (fun r_250 hr_251 => ?_)
                  refine lv_if_ne (tgt := 113) hx hb dX9_copy_103 (by decide) (fun c_252 => ?_) (fun c_252 => ?_)
                  · refine lv_aload hx hb dX9_copy_113 (lv_at hl 1 rfl) ?_
                    refine va_get (D := D) (ci := 5) (v := .ref (a 17)) (C := RX6) (T := TX6) (N := 3) hx hb hts hi6 hown hK hP 16 rfl rfl 0 (by decide) hw4 (fun _ h9 => h9) rfl dX9_copy_115 ?_
                    refine lv_iload_n hx hb dX9_copy_118 rfl (lv_at hl 4 rfl) ?_
                    refine lv_aload hx hb dX9_copy_119 (lv_at hl 0 rfl) ?_
                    refine va_get (D := D) (ci := 5) (v := .ref (a 15)) (C := RX6) (T := TX6) (N := 3) hx hb hts hi6 hown hK hP 14 rfl rfl 0 (by decide) hw4 (fun _ h9 => h9) rfl dX9_copy_121 ?_
                    refine lv_iload hx hb dX9_copy_124 (lv_at hl 6 rfl) ?_
                    refine lv_iload hx hb dX9_copy_126 (lv_at hl 7 rfl) ?_
                    refine va_copyi hx hb (by rw [hml]; exact hl.1.symm) hown hw5 hw6 hw7 hw8 hK hP hD hS 17 15 0 0 rfl rfl rfl rfl rfl (hr_246.2 c_247).1 (hr_251.2 c_252).1 (hr_246.2 c_247).2.1 (hr_le hM.2.2.2.2.2.2.1 (hr_246.2 c_247)) (hr_le hM.2.2.2.2.2.1 (hr_251.2 c_252)) (fun _ _ => rfl) (Nat.le_of_ble_eq_true rfl) (Nat.le_of_ble_eq_true rfl) dX9_copy_128 (fun H locs hP hD hS => ?_)
                    have hP : va_P D vwCl (CT cy a J (va_up I 10 (I 10)) O (va_up (va_up (va_up (va_up R 13 (R 13)) 15 (va_cpy (R 17) (R 15) x1.toNatClampNeg x3.toNatClampNeg x4.toNatClampNeg)) 17 (R 17)) 19 (R 19)) RO (LL ++ Y)) H := hP
                    have hD : va_D A (CT cy a J (va_up I 10 (I 10)) O (va_up (va_up (va_up (va_up R 13 (R 13)) 15 (va_cpy (R 17) (R 15) x1.toNatClampNeg x3.toNatClampNeg x4.toNatClampNeg)) 17 (R 17)) 19 (R 19)) RO (LL ++ Y)) := hD
                    refine lv_iload hx hb dX9_copy_131 (lv_at hl 7 rfl) ?_
                    exact wret_i hx hb hr hlocks (J, (va_up I 10 (I 10)), O, (va_up (va_up (va_up (va_up R 13 (R 13)) 15 (va_cpy (R 17) (R 15) x1.toNatClampNeg x3.toNatClampNeg x4.toNatClampNeg)) 17 (R 17)) 19 (R 19)), RO, LL, Y) ⟨(I 10), (R 13), (va_cpy (R 17) (R 15) x1.toNatClampNeg x3.toNatClampNeg x4.toNatClampNeg), (R 17), (R 19), trivial, rfl⟩ hP hD hS dX9_copy_133
                  · refine lv_aload_n hx hb dX9_copy_106 rfl (lv_at hl 2 rfl) ?_
                    refine lv_ldc (v := (-100001)) hx hb hown hw0 dX9_copy_107 ?_
                    refine kM_i (As := [.int (-100001)]) (rest := []) (q0 := 0) ⟨hx, hb, hml, hown, hts⟩ (t_X9_finding l D cy a _ J (va_up I 10 (I 10)) O (va_up (va_up (va_up (va_up R 13 (R 13)) 15 (R 15)) 17 (R 17)) 19 (R 19)) RO LL Y ((-100001) : Int32)   ) (cwV 1 hts gX9_copy_X9_finding rfl rfl rfl (by decide +kernel) ⟨Nat.le_of_ble_eq_true rfl, Nat.le_of_ble_eq_true rfl⟩) hK hN hP hD hS hA rfl rfl rfl hl.1 rfl (Nat.le_of_ble_eq_true rfl) dX9_copy_109 ⟨Nat.le_of_ble_eq_true rfl, Nat.le_of_ble_eq_true rfl⟩ (fun r_253 u H locs hw hP hD hS => ?_)
                    obtain ⟨w_254, rfl, rfl⟩ := hw
                    have hP : va_P D vwCl (CT cy a J (va_up I 10 w_254) O (va_up (va_up (va_up (va_up R 13 (R 13)) 15 (R 15)) 17 (R 17)) 19 (R 19)) RO (LL ++ Y)) H := hP
                    have hD : va_D A (CT cy a J (va_up I 10 w_254) O (va_up (va_up (va_up (va_up R 13 (R 13)) 15 (R 15)) 17 (R 17)) 19 (R 19)) RO (LL ++ Y)) := hD
                    exact wret_i hx hb hr hlocks (J, (va_up I 10 w_254), O, (va_up (va_up (va_up (va_up R 13 (R 13)) 15 (R 15)) 17 (R 17)) 19 (R 19)), RO, LL, Y) ⟨w_254, (R 13), (R 15), (R 17), (R 19), trivial, rfl⟩ hP hD hS dX9_copy_112
              · refine lv_aload_n hx hb dX9_copy_76 rfl (lv_at hl 2 rfl) ?_
                refine lv_ldc (v := (-100004)) hx hb hown hw9 dX9_copy_77 ?_
                refine kM_i (As := [.int (-100004)]) (rest := []) (q0 := 0) ⟨hx, hb, hml, hown, hts⟩ (t_X9_finding l D cy a _ J (va_up I 10 (I 10)) O (va_up (va_up (va_up (va_up R 13 (R 13)) 15 (R 15)) 17 (R 17)) 19 (R 19)) RO LL Y ((-100004) : Int32)   ) (cwV 1 hts gX9_copy_X9_finding rfl rfl rfl (by decide +kernel) ⟨Nat.le_of_ble_eq_true rfl, Nat.le_of_ble_eq_true rfl⟩) hK hN hP hD hS hA rfl rfl rfl hl.1 rfl (Nat.le_of_ble_eq_true rfl) dX9_copy_79 ⟨Nat.le_of_ble_eq_true rfl, Nat.le_of_ble_eq_true rfl⟩ (fun r_255 u H locs hw hP hD hS => ?_)
                obtain ⟨w_256, rfl, rfl⟩ := hw
                have hP : va_P D vwCl (CT cy a J (va_up I 10 w_256) O (va_up (va_up (va_up (va_up R 13 (R 13)) 15 (R 15)) 17 (R 17)) 19 (R 19)) RO (LL ++ Y)) H := hP
                have hD : va_D A (CT cy a J (va_up I 10 w_256) O (va_up (va_up (va_up (va_up R 13 (R 13)) 15 (R 15)) 17 (R 17)) 19 (R 19)) RO (LL ++ Y)) := hD
                exact wret_i hx hb hr hlocks (J, (va_up I 10 w_256), O, (va_up (va_up (va_up (va_up R 13 (R 13)) 15 (R 15)) 17 (R 17)) 19 (R 19)), RO, LL, Y) ⟨w_256, (R 13), (R 15), (R 17), (R 19), trivial, rfl⟩ hP hD hS dX9_copy_82
            · replace c_243 := bI_t c_243
              refine lv_aload_n hx hb dX9_copy_55 rfl (lv_at hl 2 rfl) ?_
              refine lv_ldcw (v := (-100002)) hx hb hown hw2 dX9_copy_56 ?_
              refine kM_i (As := [.int (-100002)]) (rest := []) (q0 := 0) ⟨hx, hb, hml, hown, hts⟩ (t_X9_finding l D cy a _ J (va_up I 10 (I 10)) O (va_up (va_up (va_up (va_up R 13 (R 13)) 15 (R 15)) 17 (R 17)) 19 (R 19)) RO LL Y ((-100002) : Int32)   ) (cwV 1 hts gX9_copy_X9_finding rfl rfl rfl (by decide +kernel) ⟨Nat.le_of_ble_eq_true rfl, Nat.le_of_ble_eq_true rfl⟩) hK hN hP hD hS hA rfl rfl rfl hl.1 rfl (Nat.le_of_ble_eq_true rfl) dX9_copy_59 ⟨Nat.le_of_ble_eq_true rfl, Nat.le_of_ble_eq_true rfl⟩ (fun r_257 u H locs hw hP hD hS => ?_)
              obtain ⟨w_258, rfl, rfl⟩ := hw
              have hP : va_P D vwCl (CT cy a J (va_up I 10 w_258) O (va_up (va_up (va_up (va_up R 13 (R 13)) 15 (R 15)) 17 (R 17)) 19 (R 19)) RO (LL ++ Y)) H := hP
              have hD : va_D A (CT cy a J (va_up I 10 w_258) O (va_up (va_up (va_up (va_up R 13 (R 13)) 15 (R 15)) 17 (R 17)) 19 (R 19)) RO (LL ++ Y)) := hD
              exact wret_i hx hb hr hlocks (J, (va_up I 10 w_258), O, (va_up (va_up (va_up (va_up R 13 (R 13)) 15 (R 15)) 17 (R 17)) 19 (R 19)), RO, LL, Y) ⟨w_258, (R 13), (R 15), (R 17), (R 19), trivial, rfl⟩ hP hD hS dX9_copy_62
        · refine wtop_v (y := .ref (a 16)) (by rw [hj_208]; exact congrArg va_rf hRO2) ?_
          refine lv_astore (lv' := [(7, .ref (a 16)), (6, .ref (a 16)), (0, .ref (a 0)), (1, .int x0), (2, .int x1), (3, .int x2), (4, .int x3), (5, .int x4)]) hx hb dX9_copy_37 hl (by decide) rfl (fun ls hl => ?_)
          refine lv_aload hx hb dX9_copy_39 (lv_at hl 1 rfl) ?_
          refine kRa_i (As := []) (rest := []) (q0 := 16) ⟨hx, hb, hml, hown, hts⟩ (t_X6_isMissing16 l D cy a _ J (va_up I 10 (I 10)) O (va_up (va_up (va_up (va_up R 13 (R 13)) 15 (R 15)) 17 (R 17)) 19 (R 19)) RO LL Y   ) (cwV 0 hts gX9_copy_X6_isMissing rfl rfl rfl (by decide +kernel) ⟨Nat.le_of_ble_eq_true rfl, Nat.le_of_ble_eq_true rfl⟩) hK hN hP hD rfl rfl rfl hl.1 rfl (Nat.le_of_ble_eq_true rfl) dX9_copy_41 ⟨Nat.le_of_ble_eq_true rfl, Nat.le_of_ble_eq_true rfl⟩ (fun r_259 hr_260 => ?_)
          obtain ⟨zb_261, rfl⟩ := hr_260
          refine lv_if_ne (tgt := 55) hx hb dX9_copy_44 (by decide) (fun c_262 => ?_) (fun c_262 => ?_)
          · replace c_262 := bI_t c_262
            refine lv_aload_n hx hb dX9_copy_55 rfl (lv_at hl 2 rfl) ?_
            refine lv_ldcw (v := (-100002)) hx hb hown hw2 dX9_copy_56 ?_
            refine kM_i (As := [.int (-100002)]) (rest := []) (q0 := 0) ⟨hx, hb, hml, hown, hts⟩ (t_X9_finding l D cy a _ J (va_up I 10 (I 10)) O (va_up (va_up (va_up (va_up R 13 (R 13)) 15 (R 15)) 17 (R 17)) 19 (R 19)) RO LL Y ((-100002) : Int32)   ) (cwV 1 hts gX9_copy_X9_finding rfl rfl rfl (by decide +kernel) ⟨Nat.le_of_ble_eq_true rfl, Nat.le_of_ble_eq_true rfl⟩) hK hN hP hD hS hA rfl rfl rfl hl.1 rfl (Nat.le_of_ble_eq_true rfl) dX9_copy_59 ⟨Nat.le_of_ble_eq_true rfl, Nat.le_of_ble_eq_true rfl⟩ (fun r_263 u H locs hw hP hD hS => ?_)
            obtain ⟨w_264, rfl, rfl⟩ := hw
            have hP : va_P D vwCl (CT cy a J (va_up I 10 w_264) O (va_up (va_up (va_up (va_up R 13 (R 13)) 15 (R 15)) 17 (R 17)) 19 (R 19)) RO (LL ++ Y)) H := hP
            have hD : va_D A (CT cy a J (va_up I 10 w_264) O (va_up (va_up (va_up (va_up R 13 (R 13)) 15 (R 15)) 17 (R 17)) 19 (R 19)) RO (LL ++ Y)) := hD
            exact wret_i hx hb hr hlocks (J, (va_up I 10 w_264), O, (va_up (va_up (va_up (va_up R 13 (R 13)) 15 (R 15)) 17 (R 17)) 19 (R 19)), RO, LL, Y) ⟨w_264, (R 13), (R 15), (R 17), (R 19), trivial, rfl⟩ hP hD hS dX9_copy_62
          · replace c_262 := bI_f c_262
            refine lv_aload hx hb dX9_copy_47 (lv_at hl 0 rfl) ?_
            refine kRa_i (As := []) (rest := []) (q0 := 16) ⟨hx, hb, hml, hown, hts⟩ (t_X6_isMissing16 l D cy a _ J (va_up I 10 (I 10)) O (va_up (va_up (va_up (va_up R 13 (R 13)) 15 (R 15)) 17 (R 17)) 19 (R 19)) RO LL Y   ) (cwV 0 hts gX9_copy_X6_isMissing rfl rfl rfl (by decide +kernel) ⟨Nat.le_of_ble_eq_true rfl, Nat.le_of_ble_eq_true rfl⟩) hK hN hP hD rfl rfl rfl hl.1 rfl (Nat.le_of_ble_eq_true rfl) dX9_copy_49 ⟨Nat.le_of_ble_eq_true rfl, Nat.le_of_ble_eq_true rfl⟩ (fun r_265 hr_266 => ?_)
            obtain ⟨zb_267, rfl⟩ := hr_266
            refine lv_if_eq (tgt := 63) hx hb dX9_copy_52 (by decide) (fun c_268 => ?_) (fun c_268 => ?_)
            · replace c_268 := bI_f c_268
              refine lv_aload hx hb dX9_copy_63 (lv_at hl 1 rfl) ?_
              refine va_get (D := D) (ci := 5) (v := .int (I 513)) (C := RX6) (T := TX6) (N := 3) hx hb hts hi6 hown hK hP 16 rfl rfl 1 (by decide) hw3 (fun _ h9 => h9) rfl dX9_copy_65 ?_
              refine lv_aload hx hb dX9_copy_68 (lv_at hl 0 rfl) ?_
              refine va_get (D := D) (ci := 5) (v := .int (I 513)) (C := RX6) (T := TX6) (N := 3) hx hb hts hi6 hown hK hP 16 rfl rfl 1 (by decide) hw3 (fun _ h9 => h9) rfl dX9_copy_70 ?_
              refine lv_icmp_eq (tgt := 83) hx hb dX9_copy_73 (by decide) (fun c_269 => ?_) (fun c_269 => ?_)
              · refine lv_aload hx hb dX9_copy_83 (lv_at hl 1 rfl) ?_
                refine lv_iload_n hx hb dX9_copy_85 rfl (lv_at hl 4 rfl) ?_
                refine lv_iload hx hb dX9_copy_86 (lv_at hl 7 rfl) ?_
                refine kRa_i (As := [.int x1, .int x4]) (rest := []) (q0 := 16) ⟨hx, hb, hml, hown, hts⟩ (t_X6_hasRange16 l D cy a _ J (va_up I 10 (I 10)) O (va_up (va_up (va_up (va_up R 13 (R 13)) 15 (R 15)) 17 (R 17)) 19 (R 19)) RO LL Y x1 x4  ) (cwV 2 hts gX9_copy_X6_hasRange rfl rfl rfl (by decide +kernel) ⟨Nat.le_of_ble_eq_true rfl, Nat.le_of_ble_eq_true rfl⟩) hK hN hP hD rfl rfl rfl hl.1 rfl (Nat.le_of_ble_eq_true rfl) dX9_copy_88 ⟨Nat.le_of_ble_eq_true rfl, Nat.le_of_ble_eq_true rfl⟩ (fun r_270 hr_271 => ?_)
                refine lv_if_eq (tgt := 106) hx hb dX9_copy_91 (by decide) (fun c_272 => ?_) (fun c_272 => ?_)
                · refine lv_aload_n hx hb dX9_copy_106 rfl (lv_at hl 2 rfl) ?_
                  refine lv_ldc (v := (-100001)) hx hb hown hw0 dX9_copy_107 ?_
                  refine kM_i (As := [.int (-100001)]) (rest := []) (q0 := 0) ⟨hx, hb, hml, hown, hts⟩ (t_X9_finding l D cy a _ J (va_up I 10 (I 10)) O (va_up (va_up (va_up (va_up R 13 (R 13)) 15 (R 15)) 17 (R 17)) 19 (R 19)) RO LL Y ((-100001) : Int32)   ) (cwV 1 hts gX9_copy_X9_finding rfl rfl rfl (by decide +kernel) ⟨Nat.le_of_ble_eq_true rfl, Nat.le_of_ble_eq_true rfl⟩) hK hN hP hD hS hA rfl rfl rfl hl.1 rfl (Nat.le_of_ble_eq_true rfl) dX9_copy_109 ⟨Nat.le_of_ble_eq_true rfl, Nat.le_of_ble_eq_true rfl⟩ (fun r_273 u H locs hw hP hD hS => ?_)
                  obtain ⟨w_274, rfl, rfl⟩ := hw
                  have hP : va_P D vwCl (CT cy a J (va_up I 10 w_274) O (va_up (va_up (va_up (va_up R 13 (R 13)) 15 (R 15)) 17 (R 17)) 19 (R 19)) RO (LL ++ Y)) H := hP
                  have hD : va_D A (CT cy a J (va_up I 10 w_274) O (va_up (va_up (va_up (va_up R 13 (R 13)) 15 (R 15)) 17 (R 17)) 19 (R 19)) RO (LL ++ Y)) := hD
                  exact wret_i hx hb hr hlocks (J, (va_up I 10 w_274), O, (va_up (va_up (va_up (va_up R 13 (R 13)) 15 (R 15)) 17 (R 17)) 19 (R 19)), RO, LL, Y) ⟨w_274, (R 13), (R 15), (R 17), (R 19), trivial, rfl⟩ hP hD hS dX9_copy_112
                · refine lv_aload hx hb dX9_copy_94 (lv_at hl 0 rfl) ?_
                  refine lv_iload hx hb dX9_copy_96 (lv_at hl 6 rfl) ?_
                  refine lv_iload hx hb dX9_copy_98 (lv_at hl 7 rfl) ?_
                  refine kRa_i (As := [.int x3, .int x4]) (rest := []) (q0 := 16) ⟨hx, hb, hml, hown, hts⟩ (t_X6_hasRange16 l D cy a _ J (va_up I 10 (I 10)) O (va_up (va_up (va_up (va_up R 13 (R 13)) 15 (R 15)) 17 (R 17)) 19 (R 19)) RO LL Y x3 x4  ) (cwV 2 hts gX9_copy_X6_hasRange rfl rfl rfl (by decide +kernel) ⟨Nat.le_of_ble_eq_true rfl, Nat.le_of_ble_eq_true rfl⟩) hK hN hP hD rfl rfl rfl hl.1 rfl (Nat.le_of_ble_eq_true rfl) dX9_copy_100 ⟨Nat.le_of_ble_eq_true rfl, Nat.le_of_ble_eq_true rfl⟩ (fun r_275 hr_276 => ?_)
                  refine lv_if_ne (tgt := 113) hx hb dX9_copy_103 (by decide) (fun c_277 => ?_) (fun c_277 => ?_)
                  · refine lv_aload hx hb dX9_copy_113 (lv_at hl 1 rfl) ?_
                    refine va_get (D := D) (ci := 5) (v := .ref (a 17)) (C := RX6) (T := TX6) (N := 3) hx hb hts hi6 hown hK hP 16 rfl rfl 0 (by decide) hw4 (fun _ h9 => h9) rfl dX9_copy_115 ?_
                    refine lv_iload_n hx hb dX9_copy_118 rfl (lv_at hl 4 rfl) ?_
                    refine lv_aload hx hb dX9_copy_119 (lv_at hl 0 rfl) ?_
                    refine va_get (D := D) (ci := 5) (v := .ref (a 17)) (C := RX6) (T := TX6) (N := 3) hx hb hts hi6 hown hK hP 16 rfl rfl 0 (by decide) hw4 (fun _ h9 => h9) rfl dX9_copy_121 ?_
                    refine lv_iload hx hb dX9_copy_124 (lv_at hl 6 rfl) ?_
                    refine lv_iload hx hb dX9_copy_126 (lv_at hl 7 rfl) ?_
                    refine va_copyi hx hb (by rw [hml]; exact hl.1.symm) hown hw5 hw6 hw7 hw8 hK hP hD hS 17 17 0 0 rfl rfl rfl rfl rfl (hr_271.2 c_272).1 (hr_276.2 c_277).1 (hr_271.2 c_272).2.1 (hr_le hM.2.2.2.2.2.2.1 (hr_271.2 c_272)) (hr_le hM.2.2.2.2.2.2.1 (hr_276.2 c_277)) (fun _ _ => rfl) (Nat.le_of_ble_eq_true rfl) (Nat.le_of_ble_eq_true rfl) dX9_copy_128 (fun H locs hP hD hS => ?_)
                    have hP : va_P D vwCl (CT cy a J (va_up I 10 (I 10)) O (va_up (va_up (va_up (va_up R 13 (R 13)) 15 (R 15)) 17 (va_cpy (R 17) (R 17) x1.toNatClampNeg x3.toNatClampNeg x4.toNatClampNeg)) 19 (R 19)) RO (LL ++ Y)) H := hP
                    have hD : va_D A (CT cy a J (va_up I 10 (I 10)) O (va_up (va_up (va_up (va_up R 13 (R 13)) 15 (R 15)) 17 (va_cpy (R 17) (R 17) x1.toNatClampNeg x3.toNatClampNeg x4.toNatClampNeg)) 19 (R 19)) RO (LL ++ Y)) := hD
                    refine lv_iload hx hb dX9_copy_131 (lv_at hl 7 rfl) ?_
                    exact wret_i hx hb hr hlocks (J, (va_up I 10 (I 10)), O, (va_up (va_up (va_up (va_up R 13 (R 13)) 15 (R 15)) 17 (va_cpy (R 17) (R 17) x1.toNatClampNeg x3.toNatClampNeg x4.toNatClampNeg)) 19 (R 19)), RO, LL, Y) ⟨(I 10), (R 13), (R 15), (va_cpy (R 17) (R 17) x1.toNatClampNeg x3.toNatClampNeg x4.toNatClampNeg), (R 19), trivial, rfl⟩ hP hD hS dX9_copy_133
                  · refine lv_aload_n hx hb dX9_copy_106 rfl (lv_at hl 2 rfl) ?_
                    refine lv_ldc (v := (-100001)) hx hb hown hw0 dX9_copy_107 ?_
                    refine kM_i (As := [.int (-100001)]) (rest := []) (q0 := 0) ⟨hx, hb, hml, hown, hts⟩ (t_X9_finding l D cy a _ J (va_up I 10 (I 10)) O (va_up (va_up (va_up (va_up R 13 (R 13)) 15 (R 15)) 17 (R 17)) 19 (R 19)) RO LL Y ((-100001) : Int32)   ) (cwV 1 hts gX9_copy_X9_finding rfl rfl rfl (by decide +kernel) ⟨Nat.le_of_ble_eq_true rfl, Nat.le_of_ble_eq_true rfl⟩) hK hN hP hD hS hA rfl rfl rfl hl.1 rfl (Nat.le_of_ble_eq_true rfl) dX9_copy_109 ⟨Nat.le_of_ble_eq_true rfl, Nat.le_of_ble_eq_true rfl⟩ (fun r_278 u H locs hw hP hD hS => ?_)
                    obtain ⟨w_279, rfl, rfl⟩ := hw
                    have hP : va_P D vwCl (CT cy a J (va_up I 10 w_279) O (va_up (va_up (va_up (va_up R 13 (R 13)) 15 (R 15)) 17 (R 17)) 19 (R 19)) RO (LL ++ Y)) H := hP
                    have hD : va_D A (CT cy a J (va_up I 10 w_279) O (va_up (va_up (va_up (va_up R 13 (R 13)) 15 (R 15)) 17 (R 17)) 19 (R 19)) RO (LL ++ Y)) := hD
                    exact wret_i hx hb hr hlocks (J, (va_up I 10 w_279), O, (va_up (va_up (va_up (va_up R 13 (R 13)) 15 (R 15)) 17 (R 17)) 19 (R 19)), RO, LL, Y) ⟨w_279, (R 13), (R 15), (R 17), (R 19), trivial, rfl⟩ hP hD hS dX9_copy_112
              · refine lv_aload_n hx hb dX9_copy_76 rfl (lv_at hl 2 rfl) ?_
                refine lv_ldc (v := (-100004)) hx hb hown hw9 dX9_copy_77 ?_
                refine kM_i (As := [.int (-100004)]) (rest := []) (q0 := 0) ⟨hx, hb, hml, hown, hts⟩ (t_X9_finding l D cy a _ J (va_up I 10 (I 10)) O (va_up (va_up (va_up (va_up R 13 (R 13)) 15 (R 15)) 17 (R 17)) 19 (R 19)) RO LL Y ((-100004) : Int32)   ) (cwV 1 hts gX9_copy_X9_finding rfl rfl rfl (by decide +kernel) ⟨Nat.le_of_ble_eq_true rfl, Nat.le_of_ble_eq_true rfl⟩) hK hN hP hD hS hA rfl rfl rfl hl.1 rfl (Nat.le_of_ble_eq_true rfl) dX9_copy_79 ⟨Nat.le_of_ble_eq_true rfl, Nat.le_of_ble_eq_true rfl⟩ (fun r_280 u H locs hw hP hD hS => ?_)
                obtain ⟨w_281, rfl, rfl⟩ := hw
                have hP : va_P D vwCl (CT cy a J (va_up I 10 w_281) O (va_up (va_up (va_up (va_up R 13 (R 13)) 15 (R 15)) 17 (R 17)) 19 (R 19)) RO (LL ++ Y)) H := hP
                have hD : va_D A (CT cy a J (va_up I 10 w_281) O (va_up (va_up (va_up (va_up R 13 (R 13)) 15 (R 15)) 17 (R 17)) 19 (R 19)) RO (LL ++ Y)) := hD
                exact wret_i hx hb hr hlocks (J, (va_up I 10 w_281), O, (va_up (va_up (va_up (va_up R 13 (R 13)) 15 (R 15)) 17 (R 17)) 19 (R 19)), RO, LL, Y) ⟨w_281, (R 13), (R 15), (R 17), (R 19), trivial, rfl⟩ hP hD hS dX9_copy_82
            · replace c_268 := bI_t c_268
              refine lv_aload_n hx hb dX9_copy_55 rfl (lv_at hl 2 rfl) ?_
              refine lv_ldcw (v := (-100002)) hx hb hown hw2 dX9_copy_56 ?_
              refine kM_i (As := [.int (-100002)]) (rest := []) (q0 := 0) ⟨hx, hb, hml, hown, hts⟩ (t_X9_finding l D cy a _ J (va_up I 10 (I 10)) O (va_up (va_up (va_up (va_up R 13 (R 13)) 15 (R 15)) 17 (R 17)) 19 (R 19)) RO LL Y ((-100002) : Int32)   ) (cwV 1 hts gX9_copy_X9_finding rfl rfl rfl (by decide +kernel) ⟨Nat.le_of_ble_eq_true rfl, Nat.le_of_ble_eq_true rfl⟩) hK hN hP hD hS hA rfl rfl rfl hl.1 rfl (Nat.le_of_ble_eq_true rfl) dX9_copy_59 ⟨Nat.le_of_ble_eq_true rfl, Nat.le_of_ble_eq_true rfl⟩ (fun r_282 u H locs hw hP hD hS => ?_)
              obtain ⟨w_283, rfl, rfl⟩ := hw
              have hP : va_P D vwCl (CT cy a J (va_up I 10 w_283) O (va_up (va_up (va_up (va_up R 13 (R 13)) 15 (R 15)) 17 (R 17)) 19 (R 19)) RO (LL ++ Y)) H := hP
              have hD : va_D A (CT cy a J (va_up I 10 w_283) O (va_up (va_up (va_up (va_up R 13 (R 13)) 15 (R 15)) 17 (R 17)) 19 (R 19)) RO (LL ++ Y)) := hD
              exact wret_i hx hb hr hlocks (J, (va_up I 10 w_283), O, (va_up (va_up (va_up (va_up R 13 (R 13)) 15 (R 15)) 17 (R 17)) 19 (R 19)), RO, LL, Y) ⟨w_283, (R 13), (R 15), (R 17), (R 19), trivial, rfl⟩ hP hD hS dX9_copy_62
        · refine wtop_v (y := .ref (a 18)) (by rw [hj_208]; exact congrArg va_rf hRO3) ?_
          refine lv_astore (lv' := [(7, .ref (a 18)), (6, .ref (a 16)), (0, .ref (a 0)), (1, .int x0), (2, .int x1), (3, .int x2), (4, .int x3), (5, .int x4)]) hx hb dX9_copy_37 hl (by decide) rfl (fun ls hl => ?_)
          refine lv_aload hx hb dX9_copy_39 (lv_at hl 1 rfl) ?_
          refine kRa_i (As := []) (rest := []) (q0 := 16) ⟨hx, hb, hml, hown, hts⟩ (t_X6_isMissing16 l D cy a _ J (va_up I 10 (I 10)) O (va_up (va_up (va_up (va_up R 13 (R 13)) 15 (R 15)) 17 (R 17)) 19 (R 19)) RO LL Y   ) (cwV 0 hts gX9_copy_X6_isMissing rfl rfl rfl (by decide +kernel) ⟨Nat.le_of_ble_eq_true rfl, Nat.le_of_ble_eq_true rfl⟩) hK hN hP hD rfl rfl rfl hl.1 rfl (Nat.le_of_ble_eq_true rfl) dX9_copy_41 ⟨Nat.le_of_ble_eq_true rfl, Nat.le_of_ble_eq_true rfl⟩ (fun r_284 hr_285 => ?_)
          obtain ⟨zb_286, rfl⟩ := hr_285
          refine lv_if_ne (tgt := 55) hx hb dX9_copy_44 (by decide) (fun c_287 => ?_) (fun c_287 => ?_)
          · replace c_287 := bI_t c_287
            refine lv_aload_n hx hb dX9_copy_55 rfl (lv_at hl 2 rfl) ?_
            refine lv_ldcw (v := (-100002)) hx hb hown hw2 dX9_copy_56 ?_
            refine kM_i (As := [.int (-100002)]) (rest := []) (q0 := 0) ⟨hx, hb, hml, hown, hts⟩ (t_X9_finding l D cy a _ J (va_up I 10 (I 10)) O (va_up (va_up (va_up (va_up R 13 (R 13)) 15 (R 15)) 17 (R 17)) 19 (R 19)) RO LL Y ((-100002) : Int32)   ) (cwV 1 hts gX9_copy_X9_finding rfl rfl rfl (by decide +kernel) ⟨Nat.le_of_ble_eq_true rfl, Nat.le_of_ble_eq_true rfl⟩) hK hN hP hD hS hA rfl rfl rfl hl.1 rfl (Nat.le_of_ble_eq_true rfl) dX9_copy_59 ⟨Nat.le_of_ble_eq_true rfl, Nat.le_of_ble_eq_true rfl⟩ (fun r_288 u H locs hw hP hD hS => ?_)
            obtain ⟨w_289, rfl, rfl⟩ := hw
            have hP : va_P D vwCl (CT cy a J (va_up I 10 w_289) O (va_up (va_up (va_up (va_up R 13 (R 13)) 15 (R 15)) 17 (R 17)) 19 (R 19)) RO (LL ++ Y)) H := hP
            have hD : va_D A (CT cy a J (va_up I 10 w_289) O (va_up (va_up (va_up (va_up R 13 (R 13)) 15 (R 15)) 17 (R 17)) 19 (R 19)) RO (LL ++ Y)) := hD
            exact wret_i hx hb hr hlocks (J, (va_up I 10 w_289), O, (va_up (va_up (va_up (va_up R 13 (R 13)) 15 (R 15)) 17 (R 17)) 19 (R 19)), RO, LL, Y) ⟨w_289, (R 13), (R 15), (R 17), (R 19), trivial, rfl⟩ hP hD hS dX9_copy_62
          · replace c_287 := bI_f c_287
            refine lv_aload hx hb dX9_copy_47 (lv_at hl 0 rfl) ?_
            refine kRa_i (As := []) (rest := []) (q0 := 18) ⟨hx, hb, hml, hown, hts⟩ (t_X6_isMissing18 l D cy a _ J (va_up I 10 (I 10)) O (va_up (va_up (va_up (va_up R 13 (R 13)) 15 (R 15)) 17 (R 17)) 19 (R 19)) RO LL Y   ) (cwV 0 hts gX9_copy_X6_isMissing rfl rfl rfl (by decide +kernel) ⟨Nat.le_of_ble_eq_true rfl, Nat.le_of_ble_eq_true rfl⟩) hK hN hP hD rfl rfl rfl hl.1 rfl (Nat.le_of_ble_eq_true rfl) dX9_copy_49 ⟨Nat.le_of_ble_eq_true rfl, Nat.le_of_ble_eq_true rfl⟩ (fun r_290 hr_291 => ?_)
            obtain ⟨zb_292, rfl⟩ := hr_291
            refine lv_if_eq (tgt := 63) hx hb dX9_copy_52 (by decide) (fun c_293 => ?_) (fun c_293 => ?_)
            · replace c_293 := bI_f c_293
              refine lv_aload hx hb dX9_copy_63 (lv_at hl 1 rfl) ?_
              refine va_get (D := D) (ci := 5) (v := .int (I 513)) (C := RX6) (T := TX6) (N := 3) hx hb hts hi6 hown hK hP 16 rfl rfl 1 (by decide) hw3 (fun _ h9 => h9) rfl dX9_copy_65 ?_
              refine lv_aload hx hb dX9_copy_68 (lv_at hl 0 rfl) ?_
              refine va_get (D := D) (ci := 5) (v := .int (I 577)) (C := RX6) (T := TX6) (N := 3) hx hb hts hi6 hown hK hP 18 rfl rfl 1 (by decide) hw3 (fun _ h9 => h9) rfl dX9_copy_70 ?_
              refine lv_icmp_eq (tgt := 83) hx hb dX9_copy_73 (by decide) (fun c_294 => ?_) (fun c_294 => ?_)
              · refine lv_aload hx hb dX9_copy_83 (lv_at hl 1 rfl) ?_
                refine lv_iload_n hx hb dX9_copy_85 rfl (lv_at hl 4 rfl) ?_
                refine lv_iload hx hb dX9_copy_86 (lv_at hl 7 rfl) ?_
                refine kRa_i (As := [.int x1, .int x4]) (rest := []) (q0 := 16) ⟨hx, hb, hml, hown, hts⟩ (t_X6_hasRange16 l D cy a _ J (va_up I 10 (I 10)) O (va_up (va_up (va_up (va_up R 13 (R 13)) 15 (R 15)) 17 (R 17)) 19 (R 19)) RO LL Y x1 x4  ) (cwV 2 hts gX9_copy_X6_hasRange rfl rfl rfl (by decide +kernel) ⟨Nat.le_of_ble_eq_true rfl, Nat.le_of_ble_eq_true rfl⟩) hK hN hP hD rfl rfl rfl hl.1 rfl (Nat.le_of_ble_eq_true rfl) dX9_copy_88 ⟨Nat.le_of_ble_eq_true rfl, Nat.le_of_ble_eq_true rfl⟩ (fun r_295 hr_296 => ?_)
                refine lv_if_eq (tgt := 106) hx hb dX9_copy_91 (by decide) (fun c_297 => ?_) (fun c_297 => ?_)
                · refine lv_aload_n hx hb dX9_copy_106 rfl (lv_at hl 2 rfl) ?_
                  refine lv_ldc (v := (-100001)) hx hb hown hw0 dX9_copy_107 ?_
                  refine kM_i (As := [.int (-100001)]) (rest := []) (q0 := 0) ⟨hx, hb, hml, hown, hts⟩ (t_X9_finding l D cy a _ J (va_up I 10 (I 10)) O (va_up (va_up (va_up (va_up R 13 (R 13)) 15 (R 15)) 17 (R 17)) 19 (R 19)) RO LL Y ((-100001) : Int32)   ) (cwV 1 hts gX9_copy_X9_finding rfl rfl rfl (by decide +kernel) ⟨Nat.le_of_ble_eq_true rfl, Nat.le_of_ble_eq_true rfl⟩) hK hN hP hD hS hA rfl rfl rfl hl.1 rfl (Nat.le_of_ble_eq_true rfl) dX9_copy_109 ⟨Nat.le_of_ble_eq_true rfl, Nat.le_of_ble_eq_true rfl⟩ (fun r_298 u H locs hw hP hD hS => ?_)
                  obtain ⟨w_299, rfl, rfl⟩ := hw
                  have hP : va_P D vwCl (CT cy a J (va_up I 10 w_299) O (va_up (va_up (va_up (va_up R 13 (R 13)) 15 (R 15)) 17 (R 17)) 19 (R 19)) RO (LL ++ Y)) H := hP
                  have hD : va_D A (CT cy a J (va_up I 10 w_299) O (va_up (va_up (va_up (va_up R 13 (R 13)) 15 (R 15)) 17 (R 17)) 19 (R 19)) RO (LL ++ Y)) := hD
                  exact wret_i hx hb hr hlocks (J, (va_up I 10 w_299), O, (va_up (va_up (va_up (va_up R 13 (R 13)) 15 (R 15)) 17 (R 17)) 19 (R 19)), RO, LL, Y) ⟨w_299, (R 13), (R 15), (R 17), (R 19), trivial, rfl⟩ hP hD hS dX9_copy_112
                · refine lv_aload hx hb dX9_copy_94 (lv_at hl 0 rfl) ?_
                  refine lv_iload hx hb dX9_copy_96 (lv_at hl 6 rfl) ?_
                  refine lv_iload hx hb dX9_copy_98 (lv_at hl 7 rfl) ?_
                  refine kRa_i (As := [.int x3, .int x4]) (rest := []) (q0 := 18) ⟨hx, hb, hml, hown, hts⟩ (t_X6_hasRange18 l D cy a _ J (va_up I 10 (I 10)) O (va_up (va_up (va_up (va_up R 13 (R 13)) 15 (R 15)) 17 (R 17)) 19 (R 19)) RO LL Y x3 x4  ) (cwV 2 hts gX9_copy_X6_hasRange rfl rfl rfl (by decide +kernel) ⟨Nat.le_of_ble_eq_true rfl, Nat.le_of_ble_eq_true rfl⟩) hK hN hP hD rfl rfl rfl hl.1 rfl (Nat.le_of_ble_eq_true rfl) dX9_copy_100 ⟨Nat.le_of_ble_eq_true rfl, Nat.le_of_ble_eq_true rfl⟩ (fun r_300 hr_301 => ?_)
                  refine lv_if_ne (tgt := 113) hx hb dX9_copy_103 (by decide) (fun c_302 => ?_) (fun c_302 => ?_)
                  · refine lv_aload hx hb dX9_copy_113 (lv_at hl 1 rfl) ?_
                    refine va_get (D := D) (ci := 5) (v := .ref (a 17)) (C := RX6) (T := TX6) (N := 3) hx hb hts hi6 hown hK hP 16 rfl rfl 0 (by decide) hw4 (fun _ h9 => h9) rfl dX9_copy_115 ?_
                    refine lv_iload_n hx hb dX9_copy_118 rfl (lv_at hl 4 rfl) ?_
                    refine lv_aload hx hb dX9_copy_119 (lv_at hl 0 rfl) ?_
                    refine va_get (D := D) (ci := 5) (v := .ref (a 19)) (C := RX6) (T := TX6) (N := 3) hx hb hts hi6 hown hK hP 18 rfl rfl 0 (by decide) hw4 (fun _ h9 => h9) rfl dX9_copy_121 ?_
                    refine lv_iload hx hb dX9_copy_124 (lv_at hl 6 rfl) ?_
                    refine lv_iload hx hb dX9_copy_126 (lv_at hl 7 rfl) ?_
                    refine va_copyi hx hb (by rw [hml]; exact hl.1.symm) hown hw5 hw6 hw7 hw8 hK hP hD hS 17 19 0 0 rfl rfl rfl rfl rfl (hr_296.2 c_297).1 (hr_301.2 c_302).1 (hr_296.2 c_297).2.1 (hr_le hM.2.2.2.2.2.2.1 (hr_296.2 c_297)) (hr_le hM.2.2.2.2.2.2.2.1 (hr_301.2 c_302)) (fun _ _ => rfl) (Nat.le_of_ble_eq_true rfl) (Nat.le_of_ble_eq_true rfl) dX9_copy_128 (fun H locs hP hD hS => ?_)
                    have hP : va_P D vwCl (CT cy a J (va_up I 10 (I 10)) O (va_up (va_up (va_up (va_up R 13 (R 13)) 15 (R 15)) 17 (R 17)) 19 (va_cpy (R 17) (R 19) x1.toNatClampNeg x3.toNatClampNeg x4.toNatClampNeg)) RO (LL ++ Y)) H := hP
                    have hD : va_D A (CT cy a J (va_up I 10 (I 10)) O (va_up (va_up (va_up (va_up R 13 (R 13)) 15 (R 15)) 17 (R 17)) 19 (va_cpy (R 17) (R 19) x1.toNatClampNeg x3.toNatClampNeg x4.toNatClampNeg)) RO (LL ++ Y)) := hD
                    refine lv_iload hx hb dX9_copy_131 (lv_at hl 7 rfl) ?_
                    exact wret_i hx hb hr hlocks (J, (va_up I 10 (I 10)), O, (va_up (va_up (va_up (va_up R 13 (R 13)) 15 (R 15)) 17 (R 17)) 19 (va_cpy (R 17) (R 19) x1.toNatClampNeg x3.toNatClampNeg x4.toNatClampNeg)), RO, LL, Y) ⟨(I 10), (R 13), (R 15), (R 17), (va_cpy (R 17) (R 19) x1.toNatClampNeg x3.toNatClampNeg x4.toNatClampNeg), trivial, rfl⟩ hP hD hS dX9_copy_133
                  · refine lv_aload_n hx hb dX9_copy_106 rfl (lv_at hl 2 rfl) ?_
                    refine lv_ldc (v := (-100001)) hx hb hown hw0 dX9_copy_107 ?_
                    refine kM_i (As := [.int (-100001)]) (rest := []) (q0 := 0) ⟨hx, hb, hml, hown, hts⟩ (t_X9_finding l D cy a _ J (va_up I 10 (I 10)) O (va_up (va_up (va_up (va_up R 13 (R 13)) 15 (R 15)) 17 (R 17)) 19 (R 19)) RO LL Y ((-100001) : Int32)   ) (cwV 1 hts gX9_copy_X9_finding rfl rfl rfl (by decide +kernel) ⟨Nat.le_of_ble_eq_true rfl, Nat.le_of_ble_eq_true rfl⟩) hK hN hP hD hS hA rfl rfl rfl hl.1 rfl (Nat.le_of_ble_eq_true rfl) dX9_copy_109 ⟨Nat.le_of_ble_eq_true rfl, Nat.le_of_ble_eq_true rfl⟩ (fun r_303 u H locs hw hP hD hS => ?_)
                    obtain ⟨w_304, rfl, rfl⟩ := hw
                    have hP : va_P D vwCl (CT cy a J (va_up I 10 w_304) O (va_up (va_up (va_up (va_up R 13 (R 13)) 15 (R 15)) 17 (R 17)) 19 (R 19)) RO (LL ++ Y)) H := hP
                    have hD : va_D A (CT cy a J (va_up I 10 w_304) O (va_up (va_up (va_up (va_up R 13 (R 13)) 15 (R 15)) 17 (R 17)) 19 (R 19)) RO (LL ++ Y)) := hD
                    exact wret_i hx hb hr hlocks (J, (va_up I 10 w_304), O, (va_up (va_up (va_up (va_up R 13 (R 13)) 15 (R 15)) 17 (R 17)) 19 (R 19)), RO, LL, Y) ⟨w_304, (R 13), (R 15), (R 17), (R 19), trivial, rfl⟩ hP hD hS dX9_copy_112
              · refine lv_aload_n hx hb dX9_copy_76 rfl (lv_at hl 2 rfl) ?_
                refine lv_ldc (v := (-100004)) hx hb hown hw9 dX9_copy_77 ?_
                refine kM_i (As := [.int (-100004)]) (rest := []) (q0 := 0) ⟨hx, hb, hml, hown, hts⟩ (t_X9_finding l D cy a _ J (va_up I 10 (I 10)) O (va_up (va_up (va_up (va_up R 13 (R 13)) 15 (R 15)) 17 (R 17)) 19 (R 19)) RO LL Y ((-100004) : Int32)   ) (cwV 1 hts gX9_copy_X9_finding rfl rfl rfl (by decide +kernel) ⟨Nat.le_of_ble_eq_true rfl, Nat.le_of_ble_eq_true rfl⟩) hK hN hP hD hS hA rfl rfl rfl hl.1 rfl (Nat.le_of_ble_eq_true rfl) dX9_copy_79 ⟨Nat.le_of_ble_eq_true rfl, Nat.le_of_ble_eq_true rfl⟩ (fun r_305 u H locs hw hP hD hS => ?_)
                obtain ⟨w_306, rfl, rfl⟩ := hw
                have hP : va_P D vwCl (CT cy a J (va_up I 10 w_306) O (va_up (va_up (va_up (va_up R 13 (R 13)) 15 (R 15)) 17 (R 17)) 19 (R 19)) RO (LL ++ Y)) H := hP
                have hD : va_D A (CT cy a J (va_up I 10 w_306) O (va_up (va_up (va_up (va_up R 13 (R 13)) 15 (R 15)) 17 (R 17)) 19 (R 19)) RO (LL ++ Y)) := hD
                exact wret_i hx hb hr hlocks (J, (va_up I 10 w_306), O, (va_up (va_up (va_up (va_up R 13 (R 13)) 15 (R 15)) 17 (R 17)) 19 (R 19)), RO, LL, Y) ⟨w_306, (R 13), (R 15), (R 17), (R 19), trivial, rfl⟩ hP hD hS dX9_copy_82
            · replace c_293 := bI_t c_293
              refine lv_aload_n hx hb dX9_copy_55 rfl (lv_at hl 2 rfl) ?_
              refine lv_ldcw (v := (-100002)) hx hb hown hw2 dX9_copy_56 ?_
              refine kM_i (As := [.int (-100002)]) (rest := []) (q0 := 0) ⟨hx, hb, hml, hown, hts⟩ (t_X9_finding l D cy a _ J (va_up I 10 (I 10)) O (va_up (va_up (va_up (va_up R 13 (R 13)) 15 (R 15)) 17 (R 17)) 19 (R 19)) RO LL Y ((-100002) : Int32)   ) (cwV 1 hts gX9_copy_X9_finding rfl rfl rfl (by decide +kernel) ⟨Nat.le_of_ble_eq_true rfl, Nat.le_of_ble_eq_true rfl⟩) hK hN hP hD hS hA rfl rfl rfl hl.1 rfl (Nat.le_of_ble_eq_true rfl) dX9_copy_59 ⟨Nat.le_of_ble_eq_true rfl, Nat.le_of_ble_eq_true rfl⟩ (fun r_307 u H locs hw hP hD hS => ?_)
              obtain ⟨w_308, rfl, rfl⟩ := hw
              have hP : va_P D vwCl (CT cy a J (va_up I 10 w_308) O (va_up (va_up (va_up (va_up R 13 (R 13)) 15 (R 15)) 17 (R 17)) 19 (R 19)) RO (LL ++ Y)) H := hP
              have hD : va_D A (CT cy a J (va_up I 10 w_308) O (va_up (va_up (va_up (va_up R 13 (R 13)) 15 (R 15)) 17 (R 17)) 19 (R 19)) RO (LL ++ Y)) := hD
              exact wret_i hx hb hr hlocks (J, (va_up I 10 w_308), O, (va_up (va_up (va_up (va_up R 13 (R 13)) 15 (R 15)) 17 (R 17)) 19 (R 19)), RO, LL, Y) ⟨w_308, (R 13), (R 15), (R 17), (R 19), trivial, rfl⟩ hP hD hS dX9_copy_62
      · refine wtop_v (y := .ref (a 18)) (by rw [hj_5]; exact congrArg va_rf hRO3) ?_
        refine lv_astore (lv' := [(6, .ref (a 18)), (0, .ref (a 0)), (1, .int x0), (2, .int x1), (3, .int x2), (4, .int x3), (5, .int x4)]) hx hb dX9_copy_29 hl (by decide) rfl (fun ls hl => ?_)
        refine lv_aload_n hx hb dX9_copy_31 rfl (lv_at hl 1 rfl) ?_
        refine va_get (D := D) (ci := 8) (v := .ref (a 1)) (C := RX9) (T := TX9) (N := 11) hx hb hts hi9 hown hK hP 0 rfl rfl 0 (by decide) hw1 (fun _ h9 => h9) rfl dX9_copy_32 ?_
        refine lv_iload_n hx hb dX9_copy_35 rfl (lv_at hl 4 rfl) ?_
        refine va_aldq hx hb hK hP 1 4 rfl rfl (within_in4 c_4) dX9_copy_36 ?_
        rcases in4 (within_in4 c_4) with hj_309 | hj_309 | hj_309 | hj_309
        · refine wtop_v (y := .ref (a 12)) (by rw [hj_309]; exact congrArg va_rf hRO0) ?_
          refine lv_astore (lv' := [(7, .ref (a 12)), (6, .ref (a 18)), (0, .ref (a 0)), (1, .int x0), (2, .int x1), (3, .int x2), (4, .int x3), (5, .int x4)]) hx hb dX9_copy_37 hl (by decide) rfl (fun ls hl => ?_)
          refine lv_aload hx hb dX9_copy_39 (lv_at hl 1 rfl) ?_
          refine kRa_i (As := []) (rest := []) (q0 := 18) ⟨hx, hb, hml, hown, hts⟩ (t_X6_isMissing18 l D cy a _ J (va_up I 10 (I 10)) O (va_up (va_up (va_up (va_up R 13 (R 13)) 15 (R 15)) 17 (R 17)) 19 (R 19)) RO LL Y   ) (cwV 0 hts gX9_copy_X6_isMissing rfl rfl rfl (by decide +kernel) ⟨Nat.le_of_ble_eq_true rfl, Nat.le_of_ble_eq_true rfl⟩) hK hN hP hD rfl rfl rfl hl.1 rfl (Nat.le_of_ble_eq_true rfl) dX9_copy_41 ⟨Nat.le_of_ble_eq_true rfl, Nat.le_of_ble_eq_true rfl⟩ (fun r_310 hr_311 => ?_)
          obtain ⟨zb_312, rfl⟩ := hr_311
          refine lv_if_ne (tgt := 55) hx hb dX9_copy_44 (by decide) (fun c_313 => ?_) (fun c_313 => ?_)
          · replace c_313 := bI_t c_313
            refine lv_aload_n hx hb dX9_copy_55 rfl (lv_at hl 2 rfl) ?_
            refine lv_ldcw (v := (-100002)) hx hb hown hw2 dX9_copy_56 ?_
            refine kM_i (As := [.int (-100002)]) (rest := []) (q0 := 0) ⟨hx, hb, hml, hown, hts⟩ (t_X9_finding l D cy a _ J (va_up I 10 (I 10)) O (va_up (va_up (va_up (va_up R 13 (R 13)) 15 (R 15)) 17 (R 17)) 19 (R 19)) RO LL Y ((-100002) : Int32)   ) (cwV 1 hts gX9_copy_X9_finding rfl rfl rfl (by decide +kernel) ⟨Nat.le_of_ble_eq_true rfl, Nat.le_of_ble_eq_true rfl⟩) hK hN hP hD hS hA rfl rfl rfl hl.1 rfl (Nat.le_of_ble_eq_true rfl) dX9_copy_59 ⟨Nat.le_of_ble_eq_true rfl, Nat.le_of_ble_eq_true rfl⟩ (fun r_314 u H locs hw hP hD hS => ?_)
            obtain ⟨w_315, rfl, rfl⟩ := hw
            have hP : va_P D vwCl (CT cy a J (va_up I 10 w_315) O (va_up (va_up (va_up (va_up R 13 (R 13)) 15 (R 15)) 17 (R 17)) 19 (R 19)) RO (LL ++ Y)) H := hP
            have hD : va_D A (CT cy a J (va_up I 10 w_315) O (va_up (va_up (va_up (va_up R 13 (R 13)) 15 (R 15)) 17 (R 17)) 19 (R 19)) RO (LL ++ Y)) := hD
            exact wret_i hx hb hr hlocks (J, (va_up I 10 w_315), O, (va_up (va_up (va_up (va_up R 13 (R 13)) 15 (R 15)) 17 (R 17)) 19 (R 19)), RO, LL, Y) ⟨w_315, (R 13), (R 15), (R 17), (R 19), trivial, rfl⟩ hP hD hS dX9_copy_62
          · replace c_313 := bI_f c_313
            refine lv_aload hx hb dX9_copy_47 (lv_at hl 0 rfl) ?_
            refine kRa_i (As := []) (rest := []) (q0 := 12) ⟨hx, hb, hml, hown, hts⟩ (t_X6_isMissing12 l D cy a _ J (va_up I 10 (I 10)) O (va_up (va_up (va_up (va_up R 13 (R 13)) 15 (R 15)) 17 (R 17)) 19 (R 19)) RO LL Y   ) (cwV 0 hts gX9_copy_X6_isMissing rfl rfl rfl (by decide +kernel) ⟨Nat.le_of_ble_eq_true rfl, Nat.le_of_ble_eq_true rfl⟩) hK hN hP hD rfl rfl rfl hl.1 rfl (Nat.le_of_ble_eq_true rfl) dX9_copy_49 ⟨Nat.le_of_ble_eq_true rfl, Nat.le_of_ble_eq_true rfl⟩ (fun r_316 hr_317 => ?_)
            obtain ⟨zb_318, rfl⟩ := hr_317
            refine lv_if_eq (tgt := 63) hx hb dX9_copy_52 (by decide) (fun c_319 => ?_) (fun c_319 => ?_)
            · replace c_319 := bI_f c_319
              refine lv_aload hx hb dX9_copy_63 (lv_at hl 1 rfl) ?_
              refine va_get (D := D) (ci := 5) (v := .int (I 577)) (C := RX6) (T := TX6) (N := 3) hx hb hts hi6 hown hK hP 18 rfl rfl 1 (by decide) hw3 (fun _ h9 => h9) rfl dX9_copy_65 ?_
              refine lv_aload hx hb dX9_copy_68 (lv_at hl 0 rfl) ?_
              refine va_get (D := D) (ci := 5) (v := .int (I 385)) (C := RX6) (T := TX6) (N := 3) hx hb hts hi6 hown hK hP 12 rfl rfl 1 (by decide) hw3 (fun _ h9 => h9) rfl dX9_copy_70 ?_
              refine lv_icmp_eq (tgt := 83) hx hb dX9_copy_73 (by decide) (fun c_320 => ?_) (fun c_320 => ?_)
              · refine lv_aload hx hb dX9_copy_83 (lv_at hl 1 rfl) ?_
                refine lv_iload_n hx hb dX9_copy_85 rfl (lv_at hl 4 rfl) ?_
                refine lv_iload hx hb dX9_copy_86 (lv_at hl 7 rfl) ?_
                refine kRa_i (As := [.int x1, .int x4]) (rest := []) (q0 := 18) ⟨hx, hb, hml, hown, hts⟩ (t_X6_hasRange18 l D cy a _ J (va_up I 10 (I 10)) O (va_up (va_up (va_up (va_up R 13 (R 13)) 15 (R 15)) 17 (R 17)) 19 (R 19)) RO LL Y x1 x4  ) (cwV 2 hts gX9_copy_X6_hasRange rfl rfl rfl (by decide +kernel) ⟨Nat.le_of_ble_eq_true rfl, Nat.le_of_ble_eq_true rfl⟩) hK hN hP hD rfl rfl rfl hl.1 rfl (Nat.le_of_ble_eq_true rfl) dX9_copy_88 ⟨Nat.le_of_ble_eq_true rfl, Nat.le_of_ble_eq_true rfl⟩ (fun r_321 hr_322 => ?_)
                refine lv_if_eq (tgt := 106) hx hb dX9_copy_91 (by decide) (fun c_323 => ?_) (fun c_323 => ?_)
                · refine lv_aload_n hx hb dX9_copy_106 rfl (lv_at hl 2 rfl) ?_
                  refine lv_ldc (v := (-100001)) hx hb hown hw0 dX9_copy_107 ?_
                  refine kM_i (As := [.int (-100001)]) (rest := []) (q0 := 0) ⟨hx, hb, hml, hown, hts⟩ (t_X9_finding l D cy a _ J (va_up I 10 (I 10)) O (va_up (va_up (va_up (va_up R 13 (R 13)) 15 (R 15)) 17 (R 17)) 19 (R 19)) RO LL Y ((-100001) : Int32)   ) (cwV 1 hts gX9_copy_X9_finding rfl rfl rfl (by decide +kernel) ⟨Nat.le_of_ble_eq_true rfl, Nat.le_of_ble_eq_true rfl⟩) hK hN hP hD hS hA rfl rfl rfl hl.1 rfl (Nat.le_of_ble_eq_true rfl) dX9_copy_109 ⟨Nat.le_of_ble_eq_true rfl, Nat.le_of_ble_eq_true rfl⟩ (fun r_324 u H locs hw hP hD hS => ?_)
                  obtain ⟨w_325, rfl, rfl⟩ := hw
                  have hP : va_P D vwCl (CT cy a J (va_up I 10 w_325) O (va_up (va_up (va_up (va_up R 13 (R 13)) 15 (R 15)) 17 (R 17)) 19 (R 19)) RO (LL ++ Y)) H := hP
                  have hD : va_D A (CT cy a J (va_up I 10 w_325) O (va_up (va_up (va_up (va_up R 13 (R 13)) 15 (R 15)) 17 (R 17)) 19 (R 19)) RO (LL ++ Y)) := hD
                  exact wret_i hx hb hr hlocks (J, (va_up I 10 w_325), O, (va_up (va_up (va_up (va_up R 13 (R 13)) 15 (R 15)) 17 (R 17)) 19 (R 19)), RO, LL, Y) ⟨w_325, (R 13), (R 15), (R 17), (R 19), trivial, rfl⟩ hP hD hS dX9_copy_112
                · refine lv_aload hx hb dX9_copy_94 (lv_at hl 0 rfl) ?_
                  refine lv_iload hx hb dX9_copy_96 (lv_at hl 6 rfl) ?_
                  refine lv_iload hx hb dX9_copy_98 (lv_at hl 7 rfl) ?_
                  refine kRa_i (As := [.int x3, .int x4]) (rest := []) (q0 := 12) ⟨hx, hb, hml, hown, hts⟩ (t_X6_hasRange12 l D cy a _ J (va_up I 10 (I 10)) O (va_up (va_up (va_up (va_up R 13 (R 13)) 15 (R 15)) 17 (R 17)) 19 (R 19)) RO LL Y x3 x4  ) (cwV 2 hts gX9_copy_X6_hasRange rfl rfl rfl (by decide +kernel) ⟨Nat.le_of_ble_eq_true rfl, Nat.le_of_ble_eq_true rfl⟩) hK hN hP hD rfl rfl rfl hl.1 rfl (Nat.le_of_ble_eq_true rfl) dX9_copy_100 ⟨Nat.le_of_ble_eq_true rfl, Nat.le_of_ble_eq_true rfl⟩ (fun r_326 hr_327 => ?_)
                  refine lv_if_ne (tgt := 113) hx hb dX9_copy_103 (by decide) (fun c_328 => ?_) (fun c_328 => ?_)
                  · refine lv_aload hx hb dX9_copy_113 (lv_at hl 1 rfl) ?_
                    refine va_get (D := D) (ci := 5) (v := .ref (a 19)) (C := RX6) (T := TX6) (N := 3) hx hb hts hi6 hown hK hP 18 rfl rfl 0 (by decide) hw4 (fun _ h9 => h9) rfl dX9_copy_115 ?_
                    refine lv_iload_n hx hb dX9_copy_118 rfl (lv_at hl 4 rfl) ?_
                    refine lv_aload hx hb dX9_copy_119 (lv_at hl 0 rfl) ?_
                    refine va_get (D := D) (ci := 5) (v := .ref (a 13)) (C := RX6) (T := TX6) (N := 3) hx hb hts hi6 hown hK hP 12 rfl rfl 0 (by decide) hw4 (fun _ h9 => h9) rfl dX9_copy_121 ?_
                    refine lv_iload hx hb dX9_copy_124 (lv_at hl 6 rfl) ?_
                    refine lv_iload hx hb dX9_copy_126 (lv_at hl 7 rfl) ?_
                    refine va_copyi hx hb (by rw [hml]; exact hl.1.symm) hown hw5 hw6 hw7 hw8 hK hP hD hS 19 13 0 0 rfl rfl rfl rfl rfl (hr_322.2 c_323).1 (hr_327.2 c_328).1 (hr_322.2 c_323).2.1 (hr_le hM.2.2.2.2.2.2.2.1 (hr_322.2 c_323)) (hr_le hM.2.2.2.2.1 (hr_327.2 c_328)) (fun _ _ => rfl) (Nat.le_of_ble_eq_true rfl) (Nat.le_of_ble_eq_true rfl) dX9_copy_128 (fun H locs hP hD hS => ?_)
                    have hP : va_P D vwCl (CT cy a J (va_up I 10 (I 10)) O (va_up (va_up (va_up (va_up R 13 (va_cpy (R 19) (R 13) x1.toNatClampNeg x3.toNatClampNeg x4.toNatClampNeg)) 15 (R 15)) 17 (R 17)) 19 (R 19)) RO (LL ++ Y)) H := hP
                    have hD : va_D A (CT cy a J (va_up I 10 (I 10)) O (va_up (va_up (va_up (va_up R 13 (va_cpy (R 19) (R 13) x1.toNatClampNeg x3.toNatClampNeg x4.toNatClampNeg)) 15 (R 15)) 17 (R 17)) 19 (R 19)) RO (LL ++ Y)) := hD
                    refine lv_iload hx hb dX9_copy_131 (lv_at hl 7 rfl) ?_
                    exact wret_i hx hb hr hlocks (J, (va_up I 10 (I 10)), O, (va_up (va_up (va_up (va_up R 13 (va_cpy (R 19) (R 13) x1.toNatClampNeg x3.toNatClampNeg x4.toNatClampNeg)) 15 (R 15)) 17 (R 17)) 19 (R 19)), RO, LL, Y) ⟨(I 10), (va_cpy (R 19) (R 13) x1.toNatClampNeg x3.toNatClampNeg x4.toNatClampNeg), (R 15), (R 17), (R 19), trivial, rfl⟩ hP hD hS dX9_copy_133
                  · refine lv_aload_n hx hb dX9_copy_106 rfl (lv_at hl 2 rfl) ?_
                    refine lv_ldc (v := (-100001)) hx hb hown hw0 dX9_copy_107 ?_
                    refine kM_i (As := [.int (-100001)]) (rest := []) (q0 := 0) ⟨hx, hb, hml, hown, hts⟩ (t_X9_finding l D cy a _ J (va_up I 10 (I 10)) O (va_up (va_up (va_up (va_up R 13 (R 13)) 15 (R 15)) 17 (R 17)) 19 (R 19)) RO LL Y ((-100001) : Int32)   ) (cwV 1 hts gX9_copy_X9_finding rfl rfl rfl (by decide +kernel) ⟨Nat.le_of_ble_eq_true rfl, Nat.le_of_ble_eq_true rfl⟩) hK hN hP hD hS hA rfl rfl rfl hl.1 rfl (Nat.le_of_ble_eq_true rfl) dX9_copy_109 ⟨Nat.le_of_ble_eq_true rfl, Nat.le_of_ble_eq_true rfl⟩ (fun r_329 u H locs hw hP hD hS => ?_)
                    obtain ⟨w_330, rfl, rfl⟩ := hw
                    have hP : va_P D vwCl (CT cy a J (va_up I 10 w_330) O (va_up (va_up (va_up (va_up R 13 (R 13)) 15 (R 15)) 17 (R 17)) 19 (R 19)) RO (LL ++ Y)) H := hP
                    have hD : va_D A (CT cy a J (va_up I 10 w_330) O (va_up (va_up (va_up (va_up R 13 (R 13)) 15 (R 15)) 17 (R 17)) 19 (R 19)) RO (LL ++ Y)) := hD
                    exact wret_i hx hb hr hlocks (J, (va_up I 10 w_330), O, (va_up (va_up (va_up (va_up R 13 (R 13)) 15 (R 15)) 17 (R 17)) 19 (R 19)), RO, LL, Y) ⟨w_330, (R 13), (R 15), (R 17), (R 19), trivial, rfl⟩ hP hD hS dX9_copy_112
              · refine lv_aload_n hx hb dX9_copy_76 rfl (lv_at hl 2 rfl) ?_
                refine lv_ldc (v := (-100004)) hx hb hown hw9 dX9_copy_77 ?_
                refine kM_i (As := [.int (-100004)]) (rest := []) (q0 := 0) ⟨hx, hb, hml, hown, hts⟩ (t_X9_finding l D cy a _ J (va_up I 10 (I 10)) O (va_up (va_up (va_up (va_up R 13 (R 13)) 15 (R 15)) 17 (R 17)) 19 (R 19)) RO LL Y ((-100004) : Int32)   ) (cwV 1 hts gX9_copy_X9_finding rfl rfl rfl (by decide +kernel) ⟨Nat.le_of_ble_eq_true rfl, Nat.le_of_ble_eq_true rfl⟩) hK hN hP hD hS hA rfl rfl rfl hl.1 rfl (Nat.le_of_ble_eq_true rfl) dX9_copy_79 ⟨Nat.le_of_ble_eq_true rfl, Nat.le_of_ble_eq_true rfl⟩ (fun r_331 u H locs hw hP hD hS => ?_)
                obtain ⟨w_332, rfl, rfl⟩ := hw
                have hP : va_P D vwCl (CT cy a J (va_up I 10 w_332) O (va_up (va_up (va_up (va_up R 13 (R 13)) 15 (R 15)) 17 (R 17)) 19 (R 19)) RO (LL ++ Y)) H := hP
                have hD : va_D A (CT cy a J (va_up I 10 w_332) O (va_up (va_up (va_up (va_up R 13 (R 13)) 15 (R 15)) 17 (R 17)) 19 (R 19)) RO (LL ++ Y)) := hD
                exact wret_i hx hb hr hlocks (J, (va_up I 10 w_332), O, (va_up (va_up (va_up (va_up R 13 (R 13)) 15 (R 15)) 17 (R 17)) 19 (R 19)), RO, LL, Y) ⟨w_332, (R 13), (R 15), (R 17), (R 19), trivial, rfl⟩ hP hD hS dX9_copy_82
            · replace c_319 := bI_t c_319
              refine lv_aload_n hx hb dX9_copy_55 rfl (lv_at hl 2 rfl) ?_
              refine lv_ldcw (v := (-100002)) hx hb hown hw2 dX9_copy_56 ?_
              refine kM_i (As := [.int (-100002)]) (rest := []) (q0 := 0) ⟨hx, hb, hml, hown, hts⟩ (t_X9_finding l D cy a _ J (va_up I 10 (I 10)) O (va_up (va_up (va_up (va_up R 13 (R 13)) 15 (R 15)) 17 (R 17)) 19 (R 19)) RO LL Y ((-100002) : Int32)   ) (cwV 1 hts gX9_copy_X9_finding rfl rfl rfl (by decide +kernel) ⟨Nat.le_of_ble_eq_true rfl, Nat.le_of_ble_eq_true rfl⟩) hK hN hP hD hS hA rfl rfl rfl hl.1 rfl (Nat.le_of_ble_eq_true rfl) dX9_copy_59 ⟨Nat.le_of_ble_eq_true rfl, Nat.le_of_ble_eq_true rfl⟩ (fun r_333 u H locs hw hP hD hS => ?_)
              obtain ⟨w_334, rfl, rfl⟩ := hw
              have hP : va_P D vwCl (CT cy a J (va_up I 10 w_334) O (va_up (va_up (va_up (va_up R 13 (R 13)) 15 (R 15)) 17 (R 17)) 19 (R 19)) RO (LL ++ Y)) H := hP
              have hD : va_D A (CT cy a J (va_up I 10 w_334) O (va_up (va_up (va_up (va_up R 13 (R 13)) 15 (R 15)) 17 (R 17)) 19 (R 19)) RO (LL ++ Y)) := hD
              exact wret_i hx hb hr hlocks (J, (va_up I 10 w_334), O, (va_up (va_up (va_up (va_up R 13 (R 13)) 15 (R 15)) 17 (R 17)) 19 (R 19)), RO, LL, Y) ⟨w_334, (R 13), (R 15), (R 17), (R 19), trivial, rfl⟩ hP hD hS dX9_copy_62
        · refine wtop_v (y := .ref (a 14)) (by rw [hj_309]; exact congrArg va_rf hRO1) ?_
          refine lv_astore (lv' := [(7, .ref (a 14)), (6, .ref (a 18)), (0, .ref (a 0)), (1, .int x0), (2, .int x1), (3, .int x2), (4, .int x3), (5, .int x4)]) hx hb dX9_copy_37 hl (by decide) rfl (fun ls hl => ?_)
          refine lv_aload hx hb dX9_copy_39 (lv_at hl 1 rfl) ?_
          refine kRa_i (As := []) (rest := []) (q0 := 18) ⟨hx, hb, hml, hown, hts⟩ (t_X6_isMissing18 l D cy a _ J (va_up I 10 (I 10)) O (va_up (va_up (va_up (va_up R 13 (R 13)) 15 (R 15)) 17 (R 17)) 19 (R 19)) RO LL Y   ) (cwV 0 hts gX9_copy_X6_isMissing rfl rfl rfl (by decide +kernel) ⟨Nat.le_of_ble_eq_true rfl, Nat.le_of_ble_eq_true rfl⟩) hK hN hP hD rfl rfl rfl hl.1 rfl (Nat.le_of_ble_eq_true rfl) dX9_copy_41 ⟨Nat.le_of_ble_eq_true rfl, Nat.le_of_ble_eq_true rfl⟩ (fun r_335 hr_336 => ?_)
          obtain ⟨zb_337, rfl⟩ := hr_336
          refine lv_if_ne (tgt := 55) hx hb dX9_copy_44 (by decide) (fun c_338 => ?_) (fun c_338 => ?_)
          · replace c_338 := bI_t c_338
            refine lv_aload_n hx hb dX9_copy_55 rfl (lv_at hl 2 rfl) ?_
            refine lv_ldcw (v := (-100002)) hx hb hown hw2 dX9_copy_56 ?_
            refine kM_i (As := [.int (-100002)]) (rest := []) (q0 := 0) ⟨hx, hb, hml, hown, hts⟩ (t_X9_finding l D cy a _ J (va_up I 10 (I 10)) O (va_up (va_up (va_up (va_up R 13 (R 13)) 15 (R 15)) 17 (R 17)) 19 (R 19)) RO LL Y ((-100002) : Int32)   ) (cwV 1 hts gX9_copy_X9_finding rfl rfl rfl (by decide +kernel) ⟨Nat.le_of_ble_eq_true rfl, Nat.le_of_ble_eq_true rfl⟩) hK hN hP hD hS hA rfl rfl rfl hl.1 rfl (Nat.le_of_ble_eq_true rfl) dX9_copy_59 ⟨Nat.le_of_ble_eq_true rfl, Nat.le_of_ble_eq_true rfl⟩ (fun r_339 u H locs hw hP hD hS => ?_)
            obtain ⟨w_340, rfl, rfl⟩ := hw
            have hP : va_P D vwCl (CT cy a J (va_up I 10 w_340) O (va_up (va_up (va_up (va_up R 13 (R 13)) 15 (R 15)) 17 (R 17)) 19 (R 19)) RO (LL ++ Y)) H := hP
            have hD : va_D A (CT cy a J (va_up I 10 w_340) O (va_up (va_up (va_up (va_up R 13 (R 13)) 15 (R 15)) 17 (R 17)) 19 (R 19)) RO (LL ++ Y)) := hD
            exact wret_i hx hb hr hlocks (J, (va_up I 10 w_340), O, (va_up (va_up (va_up (va_up R 13 (R 13)) 15 (R 15)) 17 (R 17)) 19 (R 19)), RO, LL, Y) ⟨w_340, (R 13), (R 15), (R 17), (R 19), trivial, rfl⟩ hP hD hS dX9_copy_62
          · replace c_338 := bI_f c_338
            refine lv_aload hx hb dX9_copy_47 (lv_at hl 0 rfl) ?_
            refine kRa_i (As := []) (rest := []) (q0 := 14) ⟨hx, hb, hml, hown, hts⟩ (t_X6_isMissing14 l D cy a _ J (va_up I 10 (I 10)) O (va_up (va_up (va_up (va_up R 13 (R 13)) 15 (R 15)) 17 (R 17)) 19 (R 19)) RO LL Y   ) (cwV 0 hts gX9_copy_X6_isMissing rfl rfl rfl (by decide +kernel) ⟨Nat.le_of_ble_eq_true rfl, Nat.le_of_ble_eq_true rfl⟩) hK hN hP hD rfl rfl rfl hl.1 rfl (Nat.le_of_ble_eq_true rfl) dX9_copy_49 ⟨Nat.le_of_ble_eq_true rfl, Nat.le_of_ble_eq_true rfl⟩ (fun r_341 hr_342 => ?_)
            obtain ⟨zb_343, rfl⟩ := hr_342
            refine lv_if_eq (tgt := 63) hx hb dX9_copy_52 (by decide) (fun c_344 => ?_) (fun c_344 => ?_)
            · replace c_344 := bI_f c_344
              refine lv_aload hx hb dX9_copy_63 (lv_at hl 1 rfl) ?_
              refine va_get (D := D) (ci := 5) (v := .int (I 577)) (C := RX6) (T := TX6) (N := 3) hx hb hts hi6 hown hK hP 18 rfl rfl 1 (by decide) hw3 (fun _ h9 => h9) rfl dX9_copy_65 ?_
              refine lv_aload hx hb dX9_copy_68 (lv_at hl 0 rfl) ?_
              refine va_get (D := D) (ci := 5) (v := .int (I 449)) (C := RX6) (T := TX6) (N := 3) hx hb hts hi6 hown hK hP 14 rfl rfl 1 (by decide) hw3 (fun _ h9 => h9) rfl dX9_copy_70 ?_
              refine lv_icmp_eq (tgt := 83) hx hb dX9_copy_73 (by decide) (fun c_345 => ?_) (fun c_345 => ?_)
              · refine lv_aload hx hb dX9_copy_83 (lv_at hl 1 rfl) ?_
                refine lv_iload_n hx hb dX9_copy_85 rfl (lv_at hl 4 rfl) ?_
                refine lv_iload hx hb dX9_copy_86 (lv_at hl 7 rfl) ?_
                refine kRa_i (As := [.int x1, .int x4]) (rest := []) (q0 := 18) ⟨hx, hb, hml, hown, hts⟩ (t_X6_hasRange18 l D cy a _ J (va_up I 10 (I 10)) O (va_up (va_up (va_up (va_up R 13 (R 13)) 15 (R 15)) 17 (R 17)) 19 (R 19)) RO LL Y x1 x4  ) (cwV 2 hts gX9_copy_X6_hasRange rfl rfl rfl (by decide +kernel) ⟨Nat.le_of_ble_eq_true rfl, Nat.le_of_ble_eq_true rfl⟩) hK hN hP hD rfl rfl rfl hl.1 rfl (Nat.le_of_ble_eq_true rfl) dX9_copy_88 ⟨Nat.le_of_ble_eq_true rfl, Nat.le_of_ble_eq_true rfl⟩ (fun r_346 hr_347 => ?_)
                refine lv_if_eq (tgt := 106) hx hb dX9_copy_91 (by decide) (fun c_348 => ?_) (fun c_348 => ?_)
                · refine lv_aload_n hx hb dX9_copy_106 rfl (lv_at hl 2 rfl) ?_
                  refine lv_ldc (v := (-100001)) hx hb hown hw0 dX9_copy_107 ?_
                  refine kM_i (As := [.int (-100001)]) (rest := []) (q0 := 0) ⟨hx, hb, hml, hown, hts⟩ (t_X9_finding l D cy a _ J (va_up I 10 (I 10)) O (va_up (va_up (va_up (va_up R 13 (R 13)) 15 (R 15)) 17 (R 17)) 19 (R 19)) RO LL Y ((-100001) : Int32)   ) (cwV 1 hts gX9_copy_X9_finding rfl rfl rfl (by decide +kernel) ⟨Nat.le_of_ble_eq_true rfl, Nat.le_of_ble_eq_true rfl⟩) hK hN hP hD hS hA rfl rfl rfl hl.1 rfl (Nat.le_of_ble_eq_true rfl) dX9_copy_109 ⟨Nat.le_of_ble_eq_true rfl, Nat.le_of_ble_eq_true rfl⟩ (fun r_349 u H locs hw hP hD hS => ?_)
                  obtain ⟨w_350, rfl, rfl⟩ := hw
                  have hP : va_P D vwCl (CT cy a J (va_up I 10 w_350) O (va_up (va_up (va_up (va_up R 13 (R 13)) 15 (R 15)) 17 (R 17)) 19 (R 19)) RO (LL ++ Y)) H := hP
                  have hD : va_D A (CT cy a J (va_up I 10 w_350) O (va_up (va_up (va_up (va_up R 13 (R 13)) 15 (R 15)) 17 (R 17)) 19 (R 19)) RO (LL ++ Y)) := hD
                  exact wret_i hx hb hr hlocks (J, (va_up I 10 w_350), O, (va_up (va_up (va_up (va_up R 13 (R 13)) 15 (R 15)) 17 (R 17)) 19 (R 19)), RO, LL, Y) ⟨w_350, (R 13), (R 15), (R 17), (R 19), trivial, rfl⟩ hP hD hS dX9_copy_112
                · refine lv_aload hx hb dX9_copy_94 (lv_at hl 0 rfl) ?_
                  refine lv_iload hx hb dX9_copy_96 (lv_at hl 6 rfl) ?_
                  refine lv_iload hx hb dX9_copy_98 (lv_at hl 7 rfl) ?_
                  refine kRa_i (As := [.int x3, .int x4]) (rest := []) (q0 := 14) ⟨hx, hb, hml, hown, hts⟩ (t_X6_hasRange14 l D cy a _ J (va_up I 10 (I 10)) O (va_up (va_up (va_up (va_up R 13 (R 13)) 15 (R 15)) 17 (R 17)) 19 (R 19)) RO LL Y x3 x4  ) (cwV 2 hts gX9_copy_X6_hasRange rfl rfl rfl (by decide +kernel) ⟨Nat.le_of_ble_eq_true rfl, Nat.le_of_ble_eq_true rfl⟩) hK hN hP hD rfl rfl rfl hl.1 rfl (Nat.le_of_ble_eq_true rfl) dX9_copy_100 ⟨Nat.le_of_ble_eq_true rfl, Nat.le_of_ble_eq_true rfl⟩ (fun r_351 hr_352 => ?_)
                  refine lv_if_ne (tgt := 113) hx hb dX9_copy_103 (by decide) (fun c_353 => ?_) (fun c_353 => ?_)
                  · refine lv_aload hx hb dX9_copy_113 (lv_at hl 1 rfl) ?_
                    refine va_get (D := D) (ci := 5) (v := .ref (a 19)) (C := RX6) (T := TX6) (N := 3) hx hb hts hi6 hown hK hP 18 rfl rfl 0 (by decide) hw4 (fun _ h9 => h9) rfl dX9_copy_115 ?_
                    refine lv_iload_n hx hb dX9_copy_118 rfl (lv_at hl 4 rfl) ?_
                    refine lv_aload hx hb dX9_copy_119 (lv_at hl 0 rfl) ?_
                    refine va_get (D := D) (ci := 5) (v := .ref (a 15)) (C := RX6) (T := TX6) (N := 3) hx hb hts hi6 hown hK hP 14 rfl rfl 0 (by decide) hw4 (fun _ h9 => h9) rfl dX9_copy_121 ?_
                    refine lv_iload hx hb dX9_copy_124 (lv_at hl 6 rfl) ?_
                    refine lv_iload hx hb dX9_copy_126 (lv_at hl 7 rfl) ?_
                    refine va_copyi hx hb (by rw [hml]; exact hl.1.symm) hown hw5 hw6 hw7 hw8 hK hP hD hS 19 15 0 0 rfl rfl rfl rfl rfl (hr_347.2 c_348).1 (hr_352.2 c_353).1 (hr_347.2 c_348).2.1 (hr_le hM.2.2.2.2.2.2.2.1 (hr_347.2 c_348)) (hr_le hM.2.2.2.2.2.1 (hr_352.2 c_353)) (fun _ _ => rfl) (Nat.le_of_ble_eq_true rfl) (Nat.le_of_ble_eq_true rfl) dX9_copy_128 (fun H locs hP hD hS => ?_)
                    have hP : va_P D vwCl (CT cy a J (va_up I 10 (I 10)) O (va_up (va_up (va_up (va_up R 13 (R 13)) 15 (va_cpy (R 19) (R 15) x1.toNatClampNeg x3.toNatClampNeg x4.toNatClampNeg)) 17 (R 17)) 19 (R 19)) RO (LL ++ Y)) H := hP
                    have hD : va_D A (CT cy a J (va_up I 10 (I 10)) O (va_up (va_up (va_up (va_up R 13 (R 13)) 15 (va_cpy (R 19) (R 15) x1.toNatClampNeg x3.toNatClampNeg x4.toNatClampNeg)) 17 (R 17)) 19 (R 19)) RO (LL ++ Y)) := hD
                    refine lv_iload hx hb dX9_copy_131 (lv_at hl 7 rfl) ?_
                    exact wret_i hx hb hr hlocks (J, (va_up I 10 (I 10)), O, (va_up (va_up (va_up (va_up R 13 (R 13)) 15 (va_cpy (R 19) (R 15) x1.toNatClampNeg x3.toNatClampNeg x4.toNatClampNeg)) 17 (R 17)) 19 (R 19)), RO, LL, Y) ⟨(I 10), (R 13), (va_cpy (R 19) (R 15) x1.toNatClampNeg x3.toNatClampNeg x4.toNatClampNeg), (R 17), (R 19), trivial, rfl⟩ hP hD hS dX9_copy_133
                  · refine lv_aload_n hx hb dX9_copy_106 rfl (lv_at hl 2 rfl) ?_
                    refine lv_ldc (v := (-100001)) hx hb hown hw0 dX9_copy_107 ?_
                    refine kM_i (As := [.int (-100001)]) (rest := []) (q0 := 0) ⟨hx, hb, hml, hown, hts⟩ (t_X9_finding l D cy a _ J (va_up I 10 (I 10)) O (va_up (va_up (va_up (va_up R 13 (R 13)) 15 (R 15)) 17 (R 17)) 19 (R 19)) RO LL Y ((-100001) : Int32)   ) (cwV 1 hts gX9_copy_X9_finding rfl rfl rfl (by decide +kernel) ⟨Nat.le_of_ble_eq_true rfl, Nat.le_of_ble_eq_true rfl⟩) hK hN hP hD hS hA rfl rfl rfl hl.1 rfl (Nat.le_of_ble_eq_true rfl) dX9_copy_109 ⟨Nat.le_of_ble_eq_true rfl, Nat.le_of_ble_eq_true rfl⟩ (fun r_354 u H locs hw hP hD hS => ?_)
                    obtain ⟨w_355, rfl, rfl⟩ := hw
                    have hP : va_P D vwCl (CT cy a J (va_up I 10 w_355) O (va_up (va_up (va_up (va_up R 13 (R 13)) 15 (R 15)) 17 (R 17)) 19 (R 19)) RO (LL ++ Y)) H := hP
                    have hD : va_D A (CT cy a J (va_up I 10 w_355) O (va_up (va_up (va_up (va_up R 13 (R 13)) 15 (R 15)) 17 (R 17)) 19 (R 19)) RO (LL ++ Y)) := hD
                    exact wret_i hx hb hr hlocks (J, (va_up I 10 w_355), O, (va_up (va_up (va_up (va_up R 13 (R 13)) 15 (R 15)) 17 (R 17)) 19 (R 19)), RO, LL, Y) ⟨w_355, (R 13), (R 15), (R 17), (R 19), trivial, rfl⟩ hP hD hS dX9_copy_112
              · refine lv_aload_n hx hb dX9_copy_76 rfl (lv_at hl 2 rfl) ?_
                refine lv_ldc (v := (-100004)) hx hb hown hw9 dX9_copy_77 ?_
                refine kM_i (As := [.int (-100004)]) (rest := []) (q0 := 0) ⟨hx, hb, hml, hown, hts⟩ (t_X9_finding l D cy a _ J (va_up I 10 (I 10)) O (va_up (va_up (va_up (va_up R 13 (R 13)) 15 (R 15)) 17 (R 17)) 19 (R 19)) RO LL Y ((-100004) : Int32)   ) (cwV 1 hts gX9_copy_X9_finding rfl rfl rfl (by decide +kernel) ⟨Nat.le_of_ble_eq_true rfl, Nat.le_of_ble_eq_true rfl⟩) hK hN hP hD hS hA rfl rfl rfl hl.1 rfl (Nat.le_of_ble_eq_true rfl) dX9_copy_79 ⟨Nat.le_of_ble_eq_true rfl, Nat.le_of_ble_eq_true rfl⟩ (fun r_356 u H locs hw hP hD hS => ?_)
                obtain ⟨w_357, rfl, rfl⟩ := hw
                have hP : va_P D vwCl (CT cy a J (va_up I 10 w_357) O (va_up (va_up (va_up (va_up R 13 (R 13)) 15 (R 15)) 17 (R 17)) 19 (R 19)) RO (LL ++ Y)) H := hP
                have hD : va_D A (CT cy a J (va_up I 10 w_357) O (va_up (va_up (va_up (va_up R 13 (R 13)) 15 (R 15)) 17 (R 17)) 19 (R 19)) RO (LL ++ Y)) := hD
                exact wret_i hx hb hr hlocks (J, (va_up I 10 w_357), O, (va_up (va_up (va_up (va_up R 13 (R 13)) 15 (R 15)) 17 (R 17)) 19 (R 19)), RO, LL, Y) ⟨w_357, (R 13), (R 15), (R 17), (R 19), trivial, rfl⟩ hP hD hS dX9_copy_82
            · replace c_344 := bI_t c_344
              refine lv_aload_n hx hb dX9_copy_55 rfl (lv_at hl 2 rfl) ?_
              refine lv_ldcw (v := (-100002)) hx hb hown hw2 dX9_copy_56 ?_
              refine kM_i (As := [.int (-100002)]) (rest := []) (q0 := 0) ⟨hx, hb, hml, hown, hts⟩ (t_X9_finding l D cy a _ J (va_up I 10 (I 10)) O (va_up (va_up (va_up (va_up R 13 (R 13)) 15 (R 15)) 17 (R 17)) 19 (R 19)) RO LL Y ((-100002) : Int32)   ) (cwV 1 hts gX9_copy_X9_finding rfl rfl rfl (by decide +kernel) ⟨Nat.le_of_ble_eq_true rfl, Nat.le_of_ble_eq_true rfl⟩) hK hN hP hD hS hA rfl rfl rfl hl.1 rfl (Nat.le_of_ble_eq_true rfl) dX9_copy_59 ⟨Nat.le_of_ble_eq_true rfl, Nat.le_of_ble_eq_true rfl⟩ (fun r_358 u H locs hw hP hD hS => ?_)
              obtain ⟨w_359, rfl, rfl⟩ := hw
              have hP : va_P D vwCl (CT cy a J (va_up I 10 w_359) O (va_up (va_up (va_up (va_up R 13 (R 13)) 15 (R 15)) 17 (R 17)) 19 (R 19)) RO (LL ++ Y)) H := hP
              have hD : va_D A (CT cy a J (va_up I 10 w_359) O (va_up (va_up (va_up (va_up R 13 (R 13)) 15 (R 15)) 17 (R 17)) 19 (R 19)) RO (LL ++ Y)) := hD
              exact wret_i hx hb hr hlocks (J, (va_up I 10 w_359), O, (va_up (va_up (va_up (va_up R 13 (R 13)) 15 (R 15)) 17 (R 17)) 19 (R 19)), RO, LL, Y) ⟨w_359, (R 13), (R 15), (R 17), (R 19), trivial, rfl⟩ hP hD hS dX9_copy_62
        · refine wtop_v (y := .ref (a 16)) (by rw [hj_309]; exact congrArg va_rf hRO2) ?_
          refine lv_astore (lv' := [(7, .ref (a 16)), (6, .ref (a 18)), (0, .ref (a 0)), (1, .int x0), (2, .int x1), (3, .int x2), (4, .int x3), (5, .int x4)]) hx hb dX9_copy_37 hl (by decide) rfl (fun ls hl => ?_)
          refine lv_aload hx hb dX9_copy_39 (lv_at hl 1 rfl) ?_
          refine kRa_i (As := []) (rest := []) (q0 := 18) ⟨hx, hb, hml, hown, hts⟩ (t_X6_isMissing18 l D cy a _ J (va_up I 10 (I 10)) O (va_up (va_up (va_up (va_up R 13 (R 13)) 15 (R 15)) 17 (R 17)) 19 (R 19)) RO LL Y   ) (cwV 0 hts gX9_copy_X6_isMissing rfl rfl rfl (by decide +kernel) ⟨Nat.le_of_ble_eq_true rfl, Nat.le_of_ble_eq_true rfl⟩) hK hN hP hD rfl rfl rfl hl.1 rfl (Nat.le_of_ble_eq_true rfl) dX9_copy_41 ⟨Nat.le_of_ble_eq_true rfl, Nat.le_of_ble_eq_true rfl⟩ (fun r_360 hr_361 => ?_)
          obtain ⟨zb_362, rfl⟩ := hr_361
          refine lv_if_ne (tgt := 55) hx hb dX9_copy_44 (by decide) (fun c_363 => ?_) (fun c_363 => ?_)
          · replace c_363 := bI_t c_363
            refine lv_aload_n hx hb dX9_copy_55 rfl (lv_at hl 2 rfl) ?_
            refine lv_ldcw (v := (-100002)) hx hb hown hw2 dX9_copy_56 ?_
            refine kM_i (As := [.int (-100002)]) (rest := []) (q0 := 0) ⟨hx, hb, hml, hown, hts⟩ (t_X9_finding l D cy a _ J (va_up I 10 (I 10)) O (va_up (va_up (va_up (va_up R 13 (R 13)) 15 (R 15)) 17 (R 17)) 19 (R 19)) RO LL Y ((-100002) : Int32)   ) (cwV 1 hts gX9_copy_X9_finding rfl rfl rfl (by decide +kernel) ⟨Nat.le_of_ble_eq_true rfl, Nat.le_of_ble_eq_true rfl⟩) hK hN hP hD hS hA rfl rfl rfl hl.1 rfl (Nat.le_of_ble_eq_true rfl) dX9_copy_59 ⟨Nat.le_of_ble_eq_true rfl, Nat.le_of_ble_eq_true rfl⟩ (fun r_364 u H locs hw hP hD hS => ?_)
            obtain ⟨w_365, rfl, rfl⟩ := hw
            have hP : va_P D vwCl (CT cy a J (va_up I 10 w_365) O (va_up (va_up (va_up (va_up R 13 (R 13)) 15 (R 15)) 17 (R 17)) 19 (R 19)) RO (LL ++ Y)) H := hP
            have hD : va_D A (CT cy a J (va_up I 10 w_365) O (va_up (va_up (va_up (va_up R 13 (R 13)) 15 (R 15)) 17 (R 17)) 19 (R 19)) RO (LL ++ Y)) := hD
            exact wret_i hx hb hr hlocks (J, (va_up I 10 w_365), O, (va_up (va_up (va_up (va_up R 13 (R 13)) 15 (R 15)) 17 (R 17)) 19 (R 19)), RO, LL, Y) ⟨w_365, (R 13), (R 15), (R 17), (R 19), trivial, rfl⟩ hP hD hS dX9_copy_62
          · replace c_363 := bI_f c_363
            refine lv_aload hx hb dX9_copy_47 (lv_at hl 0 rfl) ?_
            refine kRa_i (As := []) (rest := []) (q0 := 16) ⟨hx, hb, hml, hown, hts⟩ (t_X6_isMissing16 l D cy a _ J (va_up I 10 (I 10)) O (va_up (va_up (va_up (va_up R 13 (R 13)) 15 (R 15)) 17 (R 17)) 19 (R 19)) RO LL Y   ) (cwV 0 hts gX9_copy_X6_isMissing rfl rfl rfl (by decide +kernel) ⟨Nat.le_of_ble_eq_true rfl, Nat.le_of_ble_eq_true rfl⟩) hK hN hP hD rfl rfl rfl hl.1 rfl (Nat.le_of_ble_eq_true rfl) dX9_copy_49 ⟨Nat.le_of_ble_eq_true rfl, Nat.le_of_ble_eq_true rfl⟩ (fun r_366 hr_367 => ?_)
            obtain ⟨zb_368, rfl⟩ := hr_367
            refine lv_if_eq (tgt := 63) hx hb dX9_copy_52 (by decide) (fun c_369 => ?_) (fun c_369 => ?_)
            · replace c_369 := bI_f c_369
              refine lv_aload hx hb dX9_copy_63 (lv_at hl 1 rfl) ?_
              refine va_get (D := D) (ci := 5) (v := .int (I 577)) (C := RX6) (T := TX6) (N := 3) hx hb hts hi6 hown hK hP 18 rfl rfl 1 (by decide) hw3 (fun _ h9 => h9) rfl dX9_copy_65 ?_
              refine lv_aload hx hb dX9_copy_68 (lv_at hl 0 rfl) ?_
              refine va_get (D := D) (ci := 5) (v := .int (I 513)) (C := RX6) (T := TX6) (N := 3) hx hb hts hi6 hown hK hP 16 rfl rfl 1 (by decide) hw3 (fun _ h9 => h9) rfl dX9_copy_70 ?_
              refine lv_icmp_eq (tgt := 83) hx hb dX9_copy_73 (by decide) (fun c_370 => ?_) (fun c_370 => ?_)
              · refine lv_aload hx hb dX9_copy_83 (lv_at hl 1 rfl) ?_
                refine lv_iload_n hx hb dX9_copy_85 rfl (lv_at hl 4 rfl) ?_
                refine lv_iload hx hb dX9_copy_86 (lv_at hl 7 rfl) ?_
                refine kRa_i (As := [.int x1, .int x4]) (rest := []) (q0 := 18) ⟨hx, hb, hml, hown, hts⟩ (t_X6_hasRange18 l D cy a _ J (va_up I 10 (I 10)) O (va_up (va_up (va_up (va_up R 13 (R 13)) 15 (R 15)) 17 (R 17)) 19 (R 19)) RO LL Y x1 x4  ) (cwV 2 hts gX9_copy_X6_hasRange rfl rfl rfl (by decide +kernel) ⟨Nat.le_of_ble_eq_true rfl, Nat.le_of_ble_eq_true rfl⟩) hK hN hP hD rfl rfl rfl hl.1 rfl (Nat.le_of_ble_eq_true rfl) dX9_copy_88 ⟨Nat.le_of_ble_eq_true rfl, Nat.le_of_ble_eq_true rfl⟩ (fun r_371 hr_372 => ?_)
                refine lv_if_eq (tgt := 106) hx hb dX9_copy_91 (by decide) (fun c_373 => ?_) (fun c_373 => ?_)
                · refine lv_aload_n hx hb dX9_copy_106 rfl (lv_at hl 2 rfl) ?_
                  refine lv_ldc (v := (-100001)) hx hb hown hw0 dX9_copy_107 ?_
                  refine kM_i (As := [.int (-100001)]) (rest := []) (q0 := 0) ⟨hx, hb, hml, hown, hts⟩ (t_X9_finding l D cy a _ J (va_up I 10 (I 10)) O (va_up (va_up (va_up (va_up R 13 (R 13)) 15 (R 15)) 17 (R 17)) 19 (R 19)) RO LL Y ((-100001) : Int32)   ) (cwV 1 hts gX9_copy_X9_finding rfl rfl rfl (by decide +kernel) ⟨Nat.le_of_ble_eq_true rfl, Nat.le_of_ble_eq_true rfl⟩) hK hN hP hD hS hA rfl rfl rfl hl.1 rfl (Nat.le_of_ble_eq_true rfl) dX9_copy_109 ⟨Nat.le_of_ble_eq_true rfl, Nat.le_of_ble_eq_true rfl⟩ (fun r_374 u H locs hw hP hD hS => ?_)
                  obtain ⟨w_375, rfl, rfl⟩ := hw
                  have hP : va_P D vwCl (CT cy a J (va_up I 10 w_375) O (va_up (va_up (va_up (va_up R 13 (R 13)) 15 (R 15)) 17 (R 17)) 19 (R 19)) RO (LL ++ Y)) H := hP
                  have hD : va_D A (CT cy a J (va_up I 10 w_375) O (va_up (va_up (va_up (va_up R 13 (R 13)) 15 (R 15)) 17 (R 17)) 19 (R 19)) RO (LL ++ Y)) := hD
                  exact wret_i hx hb hr hlocks (J, (va_up I 10 w_375), O, (va_up (va_up (va_up (va_up R 13 (R 13)) 15 (R 15)) 17 (R 17)) 19 (R 19)), RO, LL, Y) ⟨w_375, (R 13), (R 15), (R 17), (R 19), trivial, rfl⟩ hP hD hS dX9_copy_112
                · refine lv_aload hx hb dX9_copy_94 (lv_at hl 0 rfl) ?_
                  refine lv_iload hx hb dX9_copy_96 (lv_at hl 6 rfl) ?_
                  refine lv_iload hx hb dX9_copy_98 (lv_at hl 7 rfl) ?_
                  refine kRa_i (As := [.int x3, .int x4]) (rest := []) (q0 := 16) ⟨hx, hb, hml, hown, hts⟩ (t_X6_hasRange16 l D cy a _ J (va_up I 10 (I 10)) O (va_up (va_up (va_up (va_up R 13 (R 13)) 15 (R 15)) 17 (R 17)) 19 (R 19)) RO LL Y x3 x4  ) (cwV 2 hts gX9_copy_X6_hasRange rfl rfl rfl (by decide +kernel) ⟨Nat.le_of_ble_eq_true rfl, Nat.le_of_ble_eq_true rfl⟩) hK hN hP hD rfl rfl rfl hl.1 rfl (Nat.le_of_ble_eq_true rfl) dX9_copy_100 ⟨Nat.le_of_ble_eq_true rfl, Nat.le_of_ble_eq_true rfl⟩ (fun r_376 hr_377 => ?_)
                  refine lv_if_ne (tgt := 113) hx hb dX9_copy_103 (by decide) (fun c_378 => ?_) (fun c_378 => ?_)
                  · refine lv_aload hx hb dX9_copy_113 (lv_at hl 1 rfl) ?_
                    refine va_get (D := D) (ci := 5) (v := .ref (a 19)) (C := RX6) (T := TX6) (N := 3) hx hb hts hi6 hown hK hP 18 rfl rfl 0 (by decide) hw4 (fun _ h9 => h9) rfl dX9_copy_115 ?_
                    refine lv_iload_n hx hb dX9_copy_118 rfl (lv_at hl 4 rfl) ?_
                    refine lv_aload hx hb dX9_copy_119 (lv_at hl 0 rfl) ?_
                    refine va_get (D := D) (ci := 5) (v := .ref (a 17)) (C := RX6) (T := TX6) (N := 3) hx hb hts hi6 hown hK hP 16 rfl rfl 0 (by decide) hw4 (fun _ h9 => h9) rfl dX9_copy_121 ?_
                    refine lv_iload hx hb dX9_copy_124 (lv_at hl 6 rfl) ?_
                    refine lv_iload hx hb dX9_copy_126 (lv_at hl 7 rfl) ?_
                    refine va_copyi hx hb (by rw [hml]; exact hl.1.symm) hown hw5 hw6 hw7 hw8 hK hP hD hS 19 17 0 0 rfl rfl rfl rfl rfl (hr_372.2 c_373).1 (hr_377.2 c_378).1 (hr_372.2 c_373).2.1 (hr_le hM.2.2.2.2.2.2.2.1 (hr_372.2 c_373)) (hr_le hM.2.2.2.2.2.2.1 (hr_377.2 c_378)) (fun _ _ => rfl) (Nat.le_of_ble_eq_true rfl) (Nat.le_of_ble_eq_true rfl) dX9_copy_128 (fun H locs hP hD hS => ?_)
                    have hP : va_P D vwCl (CT cy a J (va_up I 10 (I 10)) O (va_up (va_up (va_up (va_up R 13 (R 13)) 15 (R 15)) 17 (va_cpy (R 19) (R 17) x1.toNatClampNeg x3.toNatClampNeg x4.toNatClampNeg)) 19 (R 19)) RO (LL ++ Y)) H := hP
                    have hD : va_D A (CT cy a J (va_up I 10 (I 10)) O (va_up (va_up (va_up (va_up R 13 (R 13)) 15 (R 15)) 17 (va_cpy (R 19) (R 17) x1.toNatClampNeg x3.toNatClampNeg x4.toNatClampNeg)) 19 (R 19)) RO (LL ++ Y)) := hD
                    refine lv_iload hx hb dX9_copy_131 (lv_at hl 7 rfl) ?_
                    exact wret_i hx hb hr hlocks (J, (va_up I 10 (I 10)), O, (va_up (va_up (va_up (va_up R 13 (R 13)) 15 (R 15)) 17 (va_cpy (R 19) (R 17) x1.toNatClampNeg x3.toNatClampNeg x4.toNatClampNeg)) 19 (R 19)), RO, LL, Y) ⟨(I 10), (R 13), (R 15), (va_cpy (R 19) (R 17) x1.toNatClampNeg x3.toNatClampNeg x4.toNatClampNeg), (R 19), trivial, rfl⟩ hP hD hS dX9_copy_133
                  · refine lv_aload_n hx hb dX9_copy_106 rfl (lv_at hl 2 rfl) ?_
                    refine lv_ldc (v := (-100001)) hx hb hown hw0 dX9_copy_107 ?_
                    refine kM_i (As := [.int (-100001)]) (rest := []) (q0 := 0) ⟨hx, hb, hml, hown, hts⟩ (t_X9_finding l D cy a _ J (va_up I 10 (I 10)) O (va_up (va_up (va_up (va_up R 13 (R 13)) 15 (R 15)) 17 (R 17)) 19 (R 19)) RO LL Y ((-100001) : Int32)   ) (cwV 1 hts gX9_copy_X9_finding rfl rfl rfl (by decide +kernel) ⟨Nat.le_of_ble_eq_true rfl, Nat.le_of_ble_eq_true rfl⟩) hK hN hP hD hS hA rfl rfl rfl hl.1 rfl (Nat.le_of_ble_eq_true rfl) dX9_copy_109 ⟨Nat.le_of_ble_eq_true rfl, Nat.le_of_ble_eq_true rfl⟩ (fun r_379 u H locs hw hP hD hS => ?_)
                    obtain ⟨w_380, rfl, rfl⟩ := hw
                    have hP : va_P D vwCl (CT cy a J (va_up I 10 w_380) O (va_up (va_up (va_up (va_up R 13 (R 13)) 15 (R 15)) 17 (R 17)) 19 (R 19)) RO (LL ++ Y)) H := hP
                    have hD : va_D A (CT cy a J (va_up I 10 w_380) O (va_up (va_up (va_up (va_up R 13 (R 13)) 15 (R 15)) 17 (R 17)) 19 (R 19)) RO (LL ++ Y)) := hD
                    exact wret_i hx hb hr hlocks (J, (va_up I 10 w_380), O, (va_up (va_up (va_up (va_up R 13 (R 13)) 15 (R 15)) 17 (R 17)) 19 (R 19)), RO, LL, Y) ⟨w_380, (R 13), (R 15), (R 17), (R 19), trivial, rfl⟩ hP hD hS dX9_copy_112
              · refine lv_aload_n hx hb dX9_copy_76 rfl (lv_at hl 2 rfl) ?_
                refine lv_ldc (v := (-100004)) hx hb hown hw9 dX9_copy_77 ?_
                refine kM_i (As := [.int (-100004)]) (rest := []) (q0 := 0) ⟨hx, hb, hml, hown, hts⟩ (t_X9_finding l D cy a _ J (va_up I 10 (I 10)) O (va_up (va_up (va_up (va_up R 13 (R 13)) 15 (R 15)) 17 (R 17)) 19 (R 19)) RO LL Y ((-100004) : Int32)   ) (cwV 1 hts gX9_copy_X9_finding rfl rfl rfl (by decide +kernel) ⟨Nat.le_of_ble_eq_true rfl, Nat.le_of_ble_eq_true rfl⟩) hK hN hP hD hS hA rfl rfl rfl hl.1 rfl (Nat.le_of_ble_eq_true rfl) dX9_copy_79 ⟨Nat.le_of_ble_eq_true rfl, Nat.le_of_ble_eq_true rfl⟩ (fun r_381 u H locs hw hP hD hS => ?_)
                obtain ⟨w_382, rfl, rfl⟩ := hw
                have hP : va_P D vwCl (CT cy a J (va_up I 10 w_382) O (va_up (va_up (va_up (va_up R 13 (R 13)) 15 (R 15)) 17 (R 17)) 19 (R 19)) RO (LL ++ Y)) H := hP
                have hD : va_D A (CT cy a J (va_up I 10 w_382) O (va_up (va_up (va_up (va_up R 13 (R 13)) 15 (R 15)) 17 (R 17)) 19 (R 19)) RO (LL ++ Y)) := hD
                exact wret_i hx hb hr hlocks (J, (va_up I 10 w_382), O, (va_up (va_up (va_up (va_up R 13 (R 13)) 15 (R 15)) 17 (R 17)) 19 (R 19)), RO, LL, Y) ⟨w_382, (R 13), (R 15), (R 17), (R 19), trivial, rfl⟩ hP hD hS dX9_copy_82
            · replace c_369 := bI_t c_369
              refine lv_aload_n hx hb dX9_copy_55 rfl (lv_at hl 2 rfl) ?_
              refine lv_ldcw (v := (-100002)) hx hb hown hw2 dX9_copy_56 ?_
              refine kM_i (As := [.int (-100002)]) (rest := []) (q0 := 0) ⟨hx, hb, hml, hown, hts⟩ (t_X9_finding l D cy a _ J (va_up I 10 (I 10)) O (va_up (va_up (va_up (va_up R 13 (R 13)) 15 (R 15)) 17 (R 17)) 19 (R 19)) RO LL Y ((-100002) : Int32)   ) (cwV 1 hts gX9_copy_X9_finding rfl rfl rfl (by decide +kernel) ⟨Nat.le_of_ble_eq_true rfl, Nat.le_of_ble_eq_true rfl⟩) hK hN hP hD hS hA rfl rfl rfl hl.1 rfl (Nat.le_of_ble_eq_true rfl) dX9_copy_59 ⟨Nat.le_of_ble_eq_true rfl, Nat.le_of_ble_eq_true rfl⟩ (fun r_383 u H locs hw hP hD hS => ?_)
              obtain ⟨w_384, rfl, rfl⟩ := hw
              have hP : va_P D vwCl (CT cy a J (va_up I 10 w_384) O (va_up (va_up (va_up (va_up R 13 (R 13)) 15 (R 15)) 17 (R 17)) 19 (R 19)) RO (LL ++ Y)) H := hP
              have hD : va_D A (CT cy a J (va_up I 10 w_384) O (va_up (va_up (va_up (va_up R 13 (R 13)) 15 (R 15)) 17 (R 17)) 19 (R 19)) RO (LL ++ Y)) := hD
              exact wret_i hx hb hr hlocks (J, (va_up I 10 w_384), O, (va_up (va_up (va_up (va_up R 13 (R 13)) 15 (R 15)) 17 (R 17)) 19 (R 19)), RO, LL, Y) ⟨w_384, (R 13), (R 15), (R 17), (R 19), trivial, rfl⟩ hP hD hS dX9_copy_62
        · refine wtop_v (y := .ref (a 18)) (by rw [hj_309]; exact congrArg va_rf hRO3) ?_
          refine lv_astore (lv' := [(7, .ref (a 18)), (6, .ref (a 18)), (0, .ref (a 0)), (1, .int x0), (2, .int x1), (3, .int x2), (4, .int x3), (5, .int x4)]) hx hb dX9_copy_37 hl (by decide) rfl (fun ls hl => ?_)
          refine lv_aload hx hb dX9_copy_39 (lv_at hl 1 rfl) ?_
          refine kRa_i (As := []) (rest := []) (q0 := 18) ⟨hx, hb, hml, hown, hts⟩ (t_X6_isMissing18 l D cy a _ J (va_up I 10 (I 10)) O (va_up (va_up (va_up (va_up R 13 (R 13)) 15 (R 15)) 17 (R 17)) 19 (R 19)) RO LL Y   ) (cwV 0 hts gX9_copy_X6_isMissing rfl rfl rfl (by decide +kernel) ⟨Nat.le_of_ble_eq_true rfl, Nat.le_of_ble_eq_true rfl⟩) hK hN hP hD rfl rfl rfl hl.1 rfl (Nat.le_of_ble_eq_true rfl) dX9_copy_41 ⟨Nat.le_of_ble_eq_true rfl, Nat.le_of_ble_eq_true rfl⟩ (fun r_385 hr_386 => ?_)
          obtain ⟨zb_387, rfl⟩ := hr_386
          refine lv_if_ne (tgt := 55) hx hb dX9_copy_44 (by decide) (fun c_388 => ?_) (fun c_388 => ?_)
          · replace c_388 := bI_t c_388
            refine lv_aload_n hx hb dX9_copy_55 rfl (lv_at hl 2 rfl) ?_
            refine lv_ldcw (v := (-100002)) hx hb hown hw2 dX9_copy_56 ?_
            refine kM_i (As := [.int (-100002)]) (rest := []) (q0 := 0) ⟨hx, hb, hml, hown, hts⟩ (t_X9_finding l D cy a _ J (va_up I 10 (I 10)) O (va_up (va_up (va_up (va_up R 13 (R 13)) 15 (R 15)) 17 (R 17)) 19 (R 19)) RO LL Y ((-100002) : Int32)   ) (cwV 1 hts gX9_copy_X9_finding rfl rfl rfl (by decide +kernel) ⟨Nat.le_of_ble_eq_true rfl, Nat.le_of_ble_eq_true rfl⟩) hK hN hP hD hS hA rfl rfl rfl hl.1 rfl (Nat.le_of_ble_eq_true rfl) dX9_copy_59 ⟨Nat.le_of_ble_eq_true rfl, Nat.le_of_ble_eq_true rfl⟩ (fun r_389 u H locs hw hP hD hS => ?_)
            obtain ⟨w_390, rfl, rfl⟩ := hw
            have hP : va_P D vwCl (CT cy a J (va_up I 10 w_390) O (va_up (va_up (va_up (va_up R 13 (R 13)) 15 (R 15)) 17 (R 17)) 19 (R 19)) RO (LL ++ Y)) H := hP
            have hD : va_D A (CT cy a J (va_up I 10 w_390) O (va_up (va_up (va_up (va_up R 13 (R 13)) 15 (R 15)) 17 (R 17)) 19 (R 19)) RO (LL ++ Y)) := hD
            exact wret_i hx hb hr hlocks (J, (va_up I 10 w_390), O, (va_up (va_up (va_up (va_up R 13 (R 13)) 15 (R 15)) 17 (R 17)) 19 (R 19)), RO, LL, Y) ⟨w_390, (R 13), (R 15), (R 17), (R 19), trivial, rfl⟩ hP hD hS dX9_copy_62
          · replace c_388 := bI_f c_388
            refine lv_aload hx hb dX9_copy_47 (lv_at hl 0 rfl) ?_
            refine kRa_i (As := []) (rest := []) (q0 := 18) ⟨hx, hb, hml, hown, hts⟩ (t_X6_isMissing18 l D cy a _ J (va_up I 10 (I 10)) O (va_up (va_up (va_up (va_up R 13 (R 13)) 15 (R 15)) 17 (R 17)) 19 (R 19)) RO LL Y   ) (cwV 0 hts gX9_copy_X6_isMissing rfl rfl rfl (by decide +kernel) ⟨Nat.le_of_ble_eq_true rfl, Nat.le_of_ble_eq_true rfl⟩) hK hN hP hD rfl rfl rfl hl.1 rfl (Nat.le_of_ble_eq_true rfl) dX9_copy_49 ⟨Nat.le_of_ble_eq_true rfl, Nat.le_of_ble_eq_true rfl⟩ (fun r_391 hr_392 => ?_)
            obtain ⟨zb_393, rfl⟩ := hr_392
            refine lv_if_eq (tgt := 63) hx hb dX9_copy_52 (by decide) (fun c_394 => ?_) (fun c_394 => ?_)
            · replace c_394 := bI_f c_394
              refine lv_aload hx hb dX9_copy_63 (lv_at hl 1 rfl) ?_
              refine va_get (D := D) (ci := 5) (v := .int (I 577)) (C := RX6) (T := TX6) (N := 3) hx hb hts hi6 hown hK hP 18 rfl rfl 1 (by decide) hw3 (fun _ h9 => h9) rfl dX9_copy_65 ?_
              refine lv_aload hx hb dX9_copy_68 (lv_at hl 0 rfl) ?_
              refine va_get (D := D) (ci := 5) (v := .int (I 577)) (C := RX6) (T := TX6) (N := 3) hx hb hts hi6 hown hK hP 18 rfl rfl 1 (by decide) hw3 (fun _ h9 => h9) rfl dX9_copy_70 ?_
              refine lv_icmp_eq (tgt := 83) hx hb dX9_copy_73 (by decide) (fun c_395 => ?_) (fun c_395 => ?_)
              · refine lv_aload hx hb dX9_copy_83 (lv_at hl 1 rfl) ?_
                refine lv_iload_n hx hb dX9_copy_85 rfl (lv_at hl 4 rfl) ?_
                refine lv_iload hx hb dX9_copy_86 (lv_at hl 7 rfl) ?_
                refine kRa_i (As := [.int x1, .int x4]) (rest := []) (q0 := 18) ⟨hx, hb, hml, hown, hts⟩ (t_X6_hasRange18 l D cy a _ J (va_up I 10 (I 10)) O (va_up (va_up (va_up (va_up R 13 (R 13)) 15 (R 15)) 17 (R 17)) 19 (R 19)) RO LL Y x1 x4  ) (cwV 2 hts gX9_copy_X6_hasRange rfl rfl rfl (by decide +kernel) ⟨Nat.le_of_ble_eq_true rfl, Nat.le_of_ble_eq_true rfl⟩) hK hN hP hD rfl rfl rfl hl.1 rfl (Nat.le_of_ble_eq_true rfl) dX9_copy_88 ⟨Nat.le_of_ble_eq_true rfl, Nat.le_of_ble_eq_true rfl⟩ (fun r_396 hr_397 => ?_)
                refine lv_if_eq (tgt := 106) hx hb dX9_copy_91 (by decide) (fun c_398 => ?_) (fun c_398 => ?_)
                · refine lv_aload_n hx hb dX9_copy_106 rfl (lv_at hl 2 rfl) ?_
                  refine lv_ldc (v := (-100001)) hx hb hown hw0 dX9_copy_107 ?_
                  refine kM_i (As := [.int (-100001)]) (rest := []) (q0 := 0) ⟨hx, hb, hml, hown, hts⟩ (t_X9_finding l D cy a _ J (va_up I 10 (I 10)) O (va_up (va_up (va_up (va_up R 13 (R 13)) 15 (R 15)) 17 (R 17)) 19 (R 19)) RO LL Y ((-100001) : Int32)   ) (cwV 1 hts gX9_copy_X9_finding rfl rfl rfl (by decide +kernel) ⟨Nat.le_of_ble_eq_true rfl, Nat.le_of_ble_eq_true rfl⟩) hK hN hP hD hS hA rfl rfl rfl hl.1 rfl (Nat.le_of_ble_eq_true rfl) dX9_copy_109 ⟨Nat.le_of_ble_eq_true rfl, Nat.le_of_ble_eq_true rfl⟩ (fun r_399 u H locs hw hP hD hS => ?_)
                  obtain ⟨w_400, rfl, rfl⟩ := hw
                  have hP : va_P D vwCl (CT cy a J (va_up I 10 w_400) O (va_up (va_up (va_up (va_up R 13 (R 13)) 15 (R 15)) 17 (R 17)) 19 (R 19)) RO (LL ++ Y)) H := hP
                  have hD : va_D A (CT cy a J (va_up I 10 w_400) O (va_up (va_up (va_up (va_up R 13 (R 13)) 15 (R 15)) 17 (R 17)) 19 (R 19)) RO (LL ++ Y)) := hD
                  exact wret_i hx hb hr hlocks (J, (va_up I 10 w_400), O, (va_up (va_up (va_up (va_up R 13 (R 13)) 15 (R 15)) 17 (R 17)) 19 (R 19)), RO, LL, Y) ⟨w_400, (R 13), (R 15), (R 17), (R 19), trivial, rfl⟩ hP hD hS dX9_copy_112
                · refine lv_aload hx hb dX9_copy_94 (lv_at hl 0 rfl) ?_
                  refine lv_iload hx hb dX9_copy_96 (lv_at hl 6 rfl) ?_
                  refine lv_iload hx hb dX9_copy_98 (lv_at hl 7 rfl) ?_
                  refine kRa_i (As := [.int x3, .int x4]) (rest := []) (q0 := 18) ⟨hx, hb, hml, hown, hts⟩ (t_X6_hasRange18 l D cy a _ J (va_up I 10 (I 10)) O (va_up (va_up (va_up (va_up R 13 (R 13)) 15 (R 15)) 17 (R 17)) 19 (R 19)) RO LL Y x3 x4  ) (cwV 2 hts gX9_copy_X6_hasRange rfl rfl rfl (by decide +kernel) ⟨Nat.le_of_ble_eq_true rfl, Nat.le_of_ble_eq_true rfl⟩) hK hN hP hD rfl rfl rfl hl.1 rfl (Nat.le_of_ble_eq_true rfl) dX9_copy_100 ⟨Nat.le_of_ble_eq_true rfl, Nat.le_of_ble_eq_true rfl⟩ (fun r_401 hr_402 => ?_)
                  refine lv_if_ne (tgt := 113) hx hb dX9_copy_103 (by decide) (fun c_403 => ?_) (fun c_403 => ?_)
                  · refine lv_aload hx hb dX9_copy_113 (lv_at hl 1 rfl) ?_
                    refine va_get (D := D) (ci := 5) (v := .ref (a 19)) (C := RX6) (T := TX6) (N := 3) hx hb hts hi6 hown hK hP 18 rfl rfl 0 (by decide) hw4 (fun _ h9 => h9) rfl dX9_copy_115 ?_
                    refine lv_iload_n hx hb dX9_copy_118 rfl (lv_at hl 4 rfl) ?_
                    refine lv_aload hx hb dX9_copy_119 (lv_at hl 0 rfl) ?_
                    refine va_get (D := D) (ci := 5) (v := .ref (a 19)) (C := RX6) (T := TX6) (N := 3) hx hb hts hi6 hown hK hP 18 rfl rfl 0 (by decide) hw4 (fun _ h9 => h9) rfl dX9_copy_121 ?_
                    refine lv_iload hx hb dX9_copy_124 (lv_at hl 6 rfl) ?_
                    refine lv_iload hx hb dX9_copy_126 (lv_at hl 7 rfl) ?_
                    refine va_copyi hx hb (by rw [hml]; exact hl.1.symm) hown hw5 hw6 hw7 hw8 hK hP hD hS 19 19 0 0 rfl rfl rfl rfl rfl (hr_397.2 c_398).1 (hr_402.2 c_403).1 (hr_397.2 c_398).2.1 (hr_le hM.2.2.2.2.2.2.2.1 (hr_397.2 c_398)) (hr_le hM.2.2.2.2.2.2.2.1 (hr_402.2 c_403)) (fun _ _ => rfl) (Nat.le_of_ble_eq_true rfl) (Nat.le_of_ble_eq_true rfl) dX9_copy_128 (fun H locs hP hD hS => ?_)
                    have hP : va_P D vwCl (CT cy a J (va_up I 10 (I 10)) O (va_up (va_up (va_up (va_up R 13 (R 13)) 15 (R 15)) 17 (R 17)) 19 (va_cpy (R 19) (R 19) x1.toNatClampNeg x3.toNatClampNeg x4.toNatClampNeg)) RO (LL ++ Y)) H := hP
                    have hD : va_D A (CT cy a J (va_up I 10 (I 10)) O (va_up (va_up (va_up (va_up R 13 (R 13)) 15 (R 15)) 17 (R 17)) 19 (va_cpy (R 19) (R 19) x1.toNatClampNeg x3.toNatClampNeg x4.toNatClampNeg)) RO (LL ++ Y)) := hD
                    refine lv_iload hx hb dX9_copy_131 (lv_at hl 7 rfl) ?_
                    exact wret_i hx hb hr hlocks (J, (va_up I 10 (I 10)), O, (va_up (va_up (va_up (va_up R 13 (R 13)) 15 (R 15)) 17 (R 17)) 19 (va_cpy (R 19) (R 19) x1.toNatClampNeg x3.toNatClampNeg x4.toNatClampNeg)), RO, LL, Y) ⟨(I 10), (R 13), (R 15), (R 17), (va_cpy (R 19) (R 19) x1.toNatClampNeg x3.toNatClampNeg x4.toNatClampNeg), trivial, rfl⟩ hP hD hS dX9_copy_133
                  · refine lv_aload_n hx hb dX9_copy_106 rfl (lv_at hl 2 rfl) ?_
                    refine lv_ldc (v := (-100001)) hx hb hown hw0 dX9_copy_107 ?_
                    refine kM_i (As := [.int (-100001)]) (rest := []) (q0 := 0) ⟨hx, hb, hml, hown, hts⟩ (t_X9_finding l D cy a _ J (va_up I 10 (I 10)) O (va_up (va_up (va_up (va_up R 13 (R 13)) 15 (R 15)) 17 (R 17)) 19 (R 19)) RO LL Y ((-100001) : Int32)   ) (cwV 1 hts gX9_copy_X9_finding rfl rfl rfl (by decide +kernel) ⟨Nat.le_of_ble_eq_true rfl, Nat.le_of_ble_eq_true rfl⟩) hK hN hP hD hS hA rfl rfl rfl hl.1 rfl (Nat.le_of_ble_eq_true rfl) dX9_copy_109 ⟨Nat.le_of_ble_eq_true rfl, Nat.le_of_ble_eq_true rfl⟩ (fun r_404 u H locs hw hP hD hS => ?_)
                    obtain ⟨w_405, rfl, rfl⟩ := hw
                    have hP : va_P D vwCl (CT cy a J (va_up I 10 w_405) O (va_up (va_up (va_up (va_up R 13 (R 13)) 15 (R 15)) 17 (R 17)) 19 (R 19)) RO (LL ++ Y)) H := hP
                    have hD : va_D A (CT cy a J (va_up I 10 w_405) O (va_up (va_up (va_up (va_up R 13 (R 13)) 15 (R 15)) 17 (R 17)) 19 (R 19)) RO (LL ++ Y)) := hD
                    exact wret_i hx hb hr hlocks (J, (va_up I 10 w_405), O, (va_up (va_up (va_up (va_up R 13 (R 13)) 15 (R 15)) 17 (R 17)) 19 (R 19)), RO, LL, Y) ⟨w_405, (R 13), (R 15), (R 17), (R 19), trivial, rfl⟩ hP hD hS dX9_copy_112
              · refine lv_aload_n hx hb dX9_copy_76 rfl (lv_at hl 2 rfl) ?_
                refine lv_ldc (v := (-100004)) hx hb hown hw9 dX9_copy_77 ?_
                refine kM_i (As := [.int (-100004)]) (rest := []) (q0 := 0) ⟨hx, hb, hml, hown, hts⟩ (t_X9_finding l D cy a _ J (va_up I 10 (I 10)) O (va_up (va_up (va_up (va_up R 13 (R 13)) 15 (R 15)) 17 (R 17)) 19 (R 19)) RO LL Y ((-100004) : Int32)   ) (cwV 1 hts gX9_copy_X9_finding rfl rfl rfl (by decide +kernel) ⟨Nat.le_of_ble_eq_true rfl, Nat.le_of_ble_eq_true rfl⟩) hK hN hP hD hS hA rfl rfl rfl hl.1 rfl (Nat.le_of_ble_eq_true rfl) dX9_copy_79 ⟨Nat.le_of_ble_eq_true rfl, Nat.le_of_ble_eq_true rfl⟩ (fun r_406 u H locs hw hP hD hS => ?_)
                obtain ⟨w_407, rfl, rfl⟩ := hw
                have hP : va_P D vwCl (CT cy a J (va_up I 10 w_407) O (va_up (va_up (va_up (va_up R 13 (R 13)) 15 (R 15)) 17 (R 17)) 19 (R 19)) RO (LL ++ Y)) H := hP
                have hD : va_D A (CT cy a J (va_up I 10 w_407) O (va_up (va_up (va_up (va_up R 13 (R 13)) 15 (R 15)) 17 (R 17)) 19 (R 19)) RO (LL ++ Y)) := hD
                exact wret_i hx hb hr hlocks (J, (va_up I 10 w_407), O, (va_up (va_up (va_up (va_up R 13 (R 13)) 15 (R 15)) 17 (R 17)) 19 (R 19)), RO, LL, Y) ⟨w_407, (R 13), (R 15), (R 17), (R 19), trivial, rfl⟩ hP hD hS dX9_copy_82
            · replace c_394 := bI_t c_394
              refine lv_aload_n hx hb dX9_copy_55 rfl (lv_at hl 2 rfl) ?_
              refine lv_ldcw (v := (-100002)) hx hb hown hw2 dX9_copy_56 ?_
              refine kM_i (As := [.int (-100002)]) (rest := []) (q0 := 0) ⟨hx, hb, hml, hown, hts⟩ (t_X9_finding l D cy a _ J (va_up I 10 (I 10)) O (va_up (va_up (va_up (va_up R 13 (R 13)) 15 (R 15)) 17 (R 17)) 19 (R 19)) RO LL Y ((-100002) : Int32)   ) (cwV 1 hts gX9_copy_X9_finding rfl rfl rfl (by decide +kernel) ⟨Nat.le_of_ble_eq_true rfl, Nat.le_of_ble_eq_true rfl⟩) hK hN hP hD hS hA rfl rfl rfl hl.1 rfl (Nat.le_of_ble_eq_true rfl) dX9_copy_59 ⟨Nat.le_of_ble_eq_true rfl, Nat.le_of_ble_eq_true rfl⟩ (fun r_408 u H locs hw hP hD hS => ?_)
              obtain ⟨w_409, rfl, rfl⟩ := hw
              have hP : va_P D vwCl (CT cy a J (va_up I 10 w_409) O (va_up (va_up (va_up (va_up R 13 (R 13)) 15 (R 15)) 17 (R 17)) 19 (R 19)) RO (LL ++ Y)) H := hP
              have hD : va_D A (CT cy a J (va_up I 10 w_409) O (va_up (va_up (va_up (va_up R 13 (R 13)) 15 (R 15)) 17 (R 17)) 19 (R 19)) RO (LL ++ Y)) := hD
              exact wret_i hx hb hr hlocks (J, (va_up I 10 w_409), O, (va_up (va_up (va_up (va_up R 13 (R 13)) 15 (R 15)) 17 (R 17)) 19 (R 19)), RO, LL, Y) ⟨w_409, (R 13), (R 15), (R 17), (R 19), trivial, rfl⟩ hP hD hS dX9_copy_62
    · replace c_4 := bI_f c_4
      refine lv_aload_n hx hb dX9_copy_16 rfl (lv_at hl 0 rfl) ?_
      refine lv_ldc (v := (-100001)) hx hb hown hw0 dX9_copy_17 ?_
      refine kM_i (As := [.int (-100001)]) (rest := []) (q0 := 0) ⟨hx, hb, hml, hown, hts⟩ (t_X9_finding l D cy a _ J (va_up I 10 (I 10)) O (va_up (va_up (va_up (va_up R 13 (R 13)) 15 (R 15)) 17 (R 17)) 19 (R 19)) RO LL Y ((-100001) : Int32)   ) (cwV 1 hts gX9_copy_X9_finding rfl rfl rfl (by decide +kernel) ⟨Nat.le_of_ble_eq_true rfl, Nat.le_of_ble_eq_true rfl⟩) hK hN hP hD hS hA rfl rfl rfl hl.1 rfl (Nat.le_of_ble_eq_true rfl) dX9_copy_19 ⟨Nat.le_of_ble_eq_true rfl, Nat.le_of_ble_eq_true rfl⟩ (fun r_410 u H locs hw hP hD hS => ?_)
      obtain ⟨w_411, rfl, rfl⟩ := hw
      have hP : va_P D vwCl (CT cy a J (va_up I 10 w_411) O (va_up (va_up (va_up (va_up R 13 (R 13)) 15 (R 15)) 17 (R 17)) 19 (R 19)) RO (LL ++ Y)) H := hP
      have hD : va_D A (CT cy a J (va_up I 10 w_411) O (va_up (va_up (va_up (va_up R 13 (R 13)) 15 (R 15)) 17 (R 17)) 19 (R 19)) RO (LL ++ Y)) := hD
      exact wret_i hx hb hr hlocks (J, (va_up I 10 w_411), O, (va_up (va_up (va_up (va_up R 13 (R 13)) 15 (R 15)) 17 (R 17)) 19 (R 19)), RO, LL, Y) ⟨w_411, (R 13), (R 15), (R 17), (R 19), trivial, rfl⟩ hP hD hS dX9_copy_22
