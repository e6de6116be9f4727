theorem dX9_sheet_0 : decode cX9_sheet 0 = .ok (.aload_n 0, 1) := by decide +kernel
theorem dX9_sheet_1 : decode cX9_sheet 1 = .ok (.iload_n 1, 1) := by decide +kernel
set_option maxRecDepth 20000 in
theorem ggX9_sheet_X9_isSheet : GoodIn wsX9_sheet wsX9_isSheet := goodIn_r _ [9, 3, 27, 28, 29, 30, 31, 32, 33, 34, 35, 36, 37] (by decide +kernel) (by decide +kernel)
set_option maxRecDepth 20000 in
theorem gX9_sheet_X9_isSheet : GoodIn wsX9_sheet (wsV RX9 279 RX9 yX9_isSheet wsX9_isSheet) := goodIn_app (goodIn_of _ (by decide +kernel)) ggX9_sheet_X9_isSheet
theorem dX9_sheet_2 : decode cX9_sheet 2 = .ok (.invokevirtual 279, 3) := by decide +kernel
theorem dX9_sheet_5 : decode cX9_sheet 5 = .ok (.ifCond .eq 25, 3) := by decide +kernel
theorem dX9_sheet_30 : decode cX9_sheet 30 = .ok (.aload_n 0, 1) := by decide +kernel
theorem dX9_sheet_31 : decode cX9_sheet 31 = .ok (.ldc 43, 2) := by decide +kernel
set_option maxRecDepth 20000 in
theorem ggX9_sheet_X9_finding : GoodIn wsX9_sheet wsX9_finding := goodIn_r _ [13, 14, 27, 28, 29, 30, 31, 32, 33, 34, 35, 36, 37] (by decide +kernel) (by decide +kernel)
set_option maxRecDepth 20000 in
theorem gX9_sheet_X9_finding : GoodIn wsX9_sheet (wsV RX9 44 RX9 yX9_finding wsX9_finding) := goodIn_app (goodIn_of _ (by decide +kernel)) ggX9_sheet_X9_finding
theorem dX9_sheet_33 : decode cX9_sheet 33 = .ok (.invokevirtual 44, 3) := by decide +kernel
theorem dX9_sheet_36 : decode cX9_sheet 36 = .ok (.ireturn, 1) := by decide +kernel
theorem dX9_sheet_8 : decode cX9_sheet 8 = .ok (.iload_n 2, 1) := by decide +kernel
theorem dX9_sheet_9 : decode cX9_sheet 9 = .ok (.ifCond .eq 28, 3) := by decide +kernel
theorem dX9_sheet_37 : decode cX9_sheet 37 = .ok (.iload_n 3, 1) := by decide +kernel
theorem dX9_sheet_38 : decode cX9_sheet 38 = .ok (.ifCond .ge 10, 3) := by decide +kernel
theorem dX9_sheet_48 : decode cX9_sheet 48 = .ok (.iload_n 3, 1) := by decide +kernel
theorem dX9_sheet_49 : decode cX9_sheet 49 = .ok (.bipush 16, 2) := by decide +kernel
theorem dX9_sheet_51 : decode cX9_sheet 51 = .ok (.if_icmp .le 10, 3) := by decide +kernel
theorem dX9_sheet_61 : decode cX9_sheet 61 = .ok (.aload_n 0, 1) := by decide +kernel
theorem dX9_sheet_62 : decode cX9_sheet 62 = .ok (.getfield 9, 3) := by decide +kernel
theorem dX9_sheet_65 : decode cX9_sheet 65 = .ok (.iload_n 1, 1) := by decide +kernel
theorem dX9_sheet_66 : decode cX9_sheet 66 = .ok (.aaload, 1) := by decide +kernel
theorem dX9_sheet_67 : decode cX9_sheet 67 = .ok (.iload_n 2, 1) := by decide +kernel
theorem dX9_sheet_68 : decode cX9_sheet 68 = .ok (.iload_n 3, 1) := by decide +kernel
set_option maxRecDepth 20000 in
theorem ggX9_sheet_X6_begin : GoodIn wsX9_sheet wsX6_begin := goodIn_r _ [19, 20, 21, 22, 23, 24, 25, 26, 38, 39, 40] (by decide +kernel) (by decide +kernel)
set_option maxRecDepth 20000 in
theorem gX9_sheet_X6_begin : GoodIn wsX9_sheet (wsV RX9 282 RX6 yX6_begin wsX6_begin) := goodIn_app (goodIn_of _ (by decide +kernel)) ggX9_sheet_X6_begin
theorem dX9_sheet_69 : decode cX9_sheet 69 = .ok (.invokevirtual 282, 3) := by decide +kernel
theorem dX9_sheet_72 : decode cX9_sheet 72 = .ok (.aload_n 0, 1) := by decide +kernel
theorem dX9_sheet_73 : decode cX9_sheet 73 = .ok (.getfield 9, 3) := by decide +kernel
theorem dX9_sheet_76 : decode cX9_sheet 76 = .ok (.iload_n 1, 1) := by decide +kernel
theorem dX9_sheet_77 : decode cX9_sheet 77 = .ok (.aaload, 1) := by decide +kernel
theorem dX9_sheet_78 : decode cX9_sheet 78 = .ok (.getfield 286, 3) := by decide +kernel
theorem dX9_sheet_81 : decode cX9_sheet 81 = .ok (.ireturn, 1) := by decide +kernel
theorem dX9_sheet_54 : decode cX9_sheet 54 = .ok (.aload_n 0, 1) := by decide +kernel
theorem dX9_sheet_55 : decode cX9_sheet 55 = .ok (.ldc 43, 2) := by decide +kernel
theorem dX9_sheet_57 : decode cX9_sheet 57 = .ok (.invokevirtual 44, 3) := by decide +kernel
theorem dX9_sheet_60 : decode cX9_sheet 60 = .ok (.ireturn, 1) := by decide +kernel
theorem dX9_sheet_41 : decode cX9_sheet 41 = .ok (.aload_n 0, 1) := by decide +kernel
theorem dX9_sheet_42 : decode cX9_sheet 42 = .ok (.ldc 99, 2) := by decide +kernel
theorem dX9_sheet_44 : decode cX9_sheet 44 = .ok (.invokevirtual 44, 3) := by decide +kernel
theorem dX9_sheet_47 : decode cX9_sheet 47 = .ok (.ireturn, 1) := by decide +kernel
theorem dX9_sheet_12 : decode cX9_sheet 12 = .ok (.iload_n 2, 1) := by decide +kernel
theorem dX9_sheet_13 : decode cX9_sheet 13 = .ok (.bipush 8, 2) := by decide +kernel
theorem dX9_sheet_15 : decode cX9_sheet 15 = .ok (.if_icmp .eq 22, 3) := by decide +kernel
theorem dX9_sheet_18 : decode cX9_sheet 18 = .ok (.iload_n 2, 1) := by decide +kernel
theorem dX9_sheet_19 : decode cX9_sheet 19 = .ok (.bipush 16, 2) := by decide +kernel
theorem dX9_sheet_21 : decode cX9_sheet 21 = .ok (.if_icmp .eq 16, 3) := by decide +kernel
theorem dX9_sheet_24 : decode cX9_sheet 24 = .ok (.iload_n 2, 1) := by decide +kernel
theorem dX9_sheet_25 : decode cX9_sheet 25 = .ok (.bipush 32, 2) := by decide +kernel
theorem dX9_sheet_27 : decode cX9_sheet 27 = .ok (.if_icmp .eq 10, 3) := by decide +kernel
set_option maxRecDepth 20000 in
theorem ihX9_sheet_6 : ∀ w ∈ u_ws RX6 TX6 3, w ∈ wsX9_sheet := by decide +kernel
set_option maxRecDepth 20000 in
theorem ihX9_sheet_9 : ∀ w ∈ u_ws RX9 TX9 11, w ∈ wsX9_sheet := by decide +kernel
set_option maxHeartbeats 4000000 in
set_option maxRecDepth 100000 in
theorem t_X9_sheet (l : Launch) (D : va_G) (cy : Nat → ClassId) (a : Nat → Nat) (sz : Nat) (J : Nat → Int64) (I : Nat → Int32) (O : Nat → Option Nat) (R : Nat → Nat → Int32) (RO : Nat → Nat → Option Nat) (LL : va_W) (Y : va_W) (x0 : Int32) (x1 : Int32) (x2 : Int32) (hM : CI a Y I O RO) : Met l yX9_sheet wsX9_sheet ({ frames := 2, cells := 0, slots := 0, locals := 45 }) (va_Pc [.ref (a 0), .int x0, .int x1, .int x2] (PW D cy sz (CT cy a J I O R RO (LL ++ Y)))) (va_Qi (fun r (u : TS) => ∃ (w0 : Int32), ∃ (w1 : Int32), ∃ (w2 : Int32), ∃ (w3 : Int32), ∃ (w4 : Int32), ∃ (w5 : Int32), ∃ (w6 : Int32), ∃ (w7 : Int32), ∃ (w8 : Int32), ∃ (w9 : Nat → Int32), ∃ (w10 : Nat → Int32), ∃ (w11 : Nat → Int32), ∃ (w12 : Nat → Int32), (r = a_sheet x0 x1 x2 ∧ (vp_in w2 17) ∧ (vp_in w4 17) ∧ (vp_in w6 17) ∧ (vp_in w8 17)) ∧ u = (J, (va_up (va_up (va_up (va_up (va_up (va_up (va_up (va_up (va_up I 10 w0) 385 w1) 386 w2) 449 w3) 450 w4) 513 w5) 514 w6) 577 w7) 578 w8), O, (va_up (va_up (va_up (va_up R 13 w9) 15 w10) 17 w11) 19 w12), RO, LL, Y)) (BW D (va_A (CT cy a J I O R RO (LL ++ Y)) sz) (CTu cy a)) (va_A (CT cy a J I O R RO (LL ++ Y)) sz)) 0 0 (va_A (CT cy a J I O R RO (LL ++ Y)) sz) := by
  refine Met.ofW (cc := cX9_sheet) (maxL := 4) (ret := (some .int)) (by decide) rfl ?_
  intro p e s m args below meth c s₁ B hml hv
  obtain ⟨rfl, rfl, hP, hK, hN, hD0⟩ := hv
  have hx := B.exec
  have hb := B.bytes
  have hr := B.returns
  have hts := atoms_spec (ws := wsX9_sheet) B.pre
  have hown : s.vm.findClass RX9 = some m.cls := findClass_of_methodNamed B.named
  have hlocks := B.notSynchronized
  have hw0 := hts (.constant RX9 43 (-100001)) (by decide +kernel)
  have hw1 := hts (.fieldLink RX9 9 "ParquetLayer" "sheets" "[LParquetLayer$Sheet;") (by decide +kernel)
  have hw2 := hts (.fieldLink RX9 286 "ParquetLayer$Sheet" "size" "I") (by decide +kernel)
  have hw3 := hts (.constant RX9 99 (-100003)) (by decide +kernel)
  have hi6 := ihX9_sheet_6
  have hi9 := ihX9_sheet_9
  have hD := hD0.self (sz := s.heap.size)
  generalize hAe : va_A (CT cy a J I O R RO (LL ++ Y)) s.heap.size = A at hD ⊢
  have hA : ∀ q : Nat, s.heap.size ≤ q → A q := fun q h => by rw [← hAe]; exact Or.inr h
  have hS : va_S A s.heap s.heap [] := va_S.rf
  have hl := lv_entry ([.ref (a 0), .int x0, .int x1, .int x2]) (n := 4) (Nat.le_of_ble_eq_true rfl)
  rw [lg_entry_eq]
  generalize (lg_sl ([.ref (a 0), .int x0, .int x1, .int x2]) ++ List.replicate (4 - (lg_sl ([.ref (a 0), .int x0, .int x1, .int x2])).length) Slot.unset).toArray = ls at hl ⊢
  have hl : lv_has ls 4 [(0, .ref (a 0)), (1, .int x0), (2, .int x1), (3, .int x2)] := hl
  have hRO0 := hM.2.2.2.2.2.2.2.2.1
  have hRO1 := hM.2.2.2.2.2.2.2.2.2.1
  have hRO2 := hM.2.2.2.2.2.2.2.2.2.2.1
  have hRO3 := hM.2.2.2.2.2.2.2.2.2.2.2
  have hP : va_P D vwCl (CT cy a J (va_up (va_up (va_up (va_up (va_up (va_up (va_up (va_up (va_up I 10 (I 10)) 385 (I 385)) 386 (I 386)) 449 (I 449)) 450 (I 450)) 513 (I 513)) 514 (I 514)) 577 (I 577)) 578 (I 578)) O (va_up (va_up (va_up (va_up R 13 (R 13)) 15 (R 15)) 17 (R 17)) 19 (R 19)) RO (LL ++ Y)) s.heap := hP
  have hD : va_D A (CT cy a J (va_up (va_up (va_up (va_up (va_up (va_up (va_up (va_up (va_up I 10 (I 10)) 385 (I 385)) 386 (I 386)) 449 (I 449)) 450 (I 450)) 513 (I 513)) 514 (I 514)) 577 (I 577)) 578 (I 578)) O (va_up (va_up (va_up (va_up R 13 (R 13)) 15 (R 15)) 17 (R 17)) 19 (R 19)) RO (LL ++ Y)) := hD
  refine lv_aload_n hx hb dX9_sheet_0 rfl (lv_at hl 0 rfl) ?_
  refine lv_iload_n hx hb dX9_sheet_1 rfl (lv_at hl 1 rfl) ?_
  refine kR_i (As := [.int x0]) (rest := []) (q0 := 0) ⟨hx, hb, hml, hown, hts⟩ (t_X9_isSheet l D cy a _ J (va_up (va_up (va_up (va_up (va_up (va_up (va_up (va_up (va_up I 10 (I 10)) 385 (I 385)) 386 (I 386)) 449 (I 449)) 450 (I 450)) 513 (I 513)) 514 (I 514)) 577 (I 577)) 578 (I 578)) O (va_up (va_up (va_up (va_up R 13 (R 13)) 15 (R 15)) 17 (R 17)) 19 (R 19)) RO LL Y x0  ) (cwV 1 hts gX9_sheet_X9_isSheet rfl rfl rfl (by decide +kernel) ⟨Nat.le_of_ble_eq_true rfl, Nat.le_of_ble_eq_true rfl⟩) hK hN hP hD rfl rfl rfl hl.1 rfl (Nat.le_of_ble_eq_true rfl) dX9_sheet_2 ⟨Nat.le_of_ble_eq_true rfl, Nat.le_of_ble_eq_true rfl⟩ ?_
  refine lv_if_eq (tgt := 30) hx hb dX9_sheet_5 (by decide) (fun c_1 => ?_) (fun c_1 => ?_)
  · replace c_1 := bI_f c_1
    refine lv_aload_n hx hb dX9_sheet_30 rfl (lv_at hl 0 rfl) ?_
    refine lv_ldc (v := (-100001)) hx hb hown hw0 dX9_sheet_31 ?_
    refine kM_i (As := [.int (-100001)]) (rest := []) (q0 := 0) ⟨hx, hb, hml, hown, hts⟩ (t_X9_finding l D cy a _ J (va_up (va_up (va_up (va_up (va_up (va_up (va_up (va_up (va_up I 10 (I 10)) 385 (I 385)) 386 (I 386)) 449 (I 449)) 450 (I 450)) 513 (I 513)) 514 (I 514)) 577 (I 577)) 578 (I 578)) O (va_up (va_up (va_up (va_up R 13 (R 13)) 15 (R 15)) 17 (R 17)) 19 (R 19)) RO LL Y ((-100001) : Int32)   ) (cwV 1 hts gX9_sheet_X9_finding rfl rfl rfl (by decide +kernel) ⟨Nat.le_of_ble_eq_true rfl, Nat.le_of_ble_eq_true rfl⟩) hK hN hP hD hS hA rfl rfl rfl hl.1 rfl (Nat.le_of_ble_eq_true rfl) dX9_sheet_33 ⟨Nat.le_of_ble_eq_true rfl, Nat.le_of_ble_eq_true rfl⟩ (fun r_2 u H locs hw hP hD hS => ?_)
    obtain ⟨w_3, rfl, rfl⟩ := hw
    have hP : va_P D vwCl (CT cy a J (va_up (va_up (va_up (va_up (va_up (va_up (va_up (va_up (va_up I 10 w_3) 385 (I 385)) 386 (I 386)) 449 (I 449)) 450 (I 450)) 513 (I 513)) 514 (I 514)) 577 (I 577)) 578 (I 578)) O (va_up (va_up (va_up (va_up R 13 (R 13)) 15 (R 15)) 17 (R 17)) 19 (R 19)) RO (LL ++ Y)) H := hP
    have hD : va_D A (CT cy a J (va_up (va_up (va_up (va_up (va_up (va_up (va_up (va_up (va_up I 10 w_3) 385 (I 385)) 386 (I 386)) 449 (I 449)) 450 (I 450)) 513 (I 513)) 514 (I 514)) 577 (I 577)) 578 (I 578)) O (va_up (va_up (va_up (va_up R 13 (R 13)) 15 (R 15)) 17 (R 17)) 19 (R 19)) RO (LL ++ Y)) := hD
    exact wret_i hx hb hr hlocks (J, (va_up (va_up (va_up (va_up (va_up (va_up (va_up (va_up (va_up I 10 w_3) 385 (I 385)) 386 (I 386)) 449 (I 449)) 450 (I 450)) 513 (I 513)) 514 (I 514)) 577 (I 577)) 578 (I 578)), O, (va_up (va_up (va_up (va_up R 13 (R 13)) 15 (R 15)) 17 (R 17)) 19 (R 19)), RO, LL, Y) ⟨w_3, (I 385), (I 386), (I 449), (I 450), (I 513), (I 514), (I 577), (I 578), (R 13), (R 15), (R 17), (R 19), ⟨(sh_b1 c_1), hM.2.2.2.2.1, hM.2.2.2.2.2.1, hM.2.2.2.2.2.2.1, hM.2.2.2.2.2.2.2.1⟩, rfl⟩ hP hD hS dX9_sheet_36
  · replace c_1 := bI_t c_1
    refine lv_iload_n hx hb dX9_sheet_8 rfl (lv_at hl 2 rfl) ?_
    refine lv_if_eq (tgt := 37) hx hb dX9_sheet_9 (by decide) (fun c_4 => ?_) (fun c_4 => ?_)
    · refine lv_iload_n hx hb dX9_sheet_37 rfl (lv_at hl 3 rfl) ?_
      refine lv_if_ge (tgt := 48) hx hb dX9_sheet_38 (by decide) (fun c_5 => ?_) (fun c_5 => ?_)
      · refine lv_iload_n hx hb dX9_sheet_48 rfl (lv_at hl 3 rfl) ?_
        refine lv_bipush (v := 16) hx hb dX9_sheet_49 (by decide) ?_
        refine lv_icmp_le (tgt := 61) hx hb dX9_sheet_51 (by decide) (fun c_6 => ?_) (fun c_6 => ?_)
        · refine lv_aload_n hx hb dX9_sheet_61 rfl (lv_at hl 0 rfl) ?_
          refine va_get (D := D) (ci := 8) (v := .ref (a 1)) (C := RX9) (T := TX9) (N := 11) hx hb hts hi9 hown hK hP 0 rfl rfl 0 (by decide) hw1 (fun _ h9 => h9) rfl dX9_sheet_62 ?_
          refine lv_iload_n hx hb dX9_sheet_65 rfl (lv_at hl 1 rfl) ?_
          refine va_aldq hx hb hK hP 1 4 rfl rfl (within_in4 c_1) dX9_sheet_66 ?_
          rcases in4 (within_in4 c_1) with hj_7 | hj_7 | hj_7 | hj_7
          · refine wtop_v (y := .ref (a 12)) (by rw [hj_7]; exact congrArg va_rf hRO0) ?_
            refine lv_iload_n hx hb dX9_sheet_67 rfl (lv_at hl 2 rfl) ?_
            refine lv_iload_n hx hb dX9_sheet_68 rfl (lv_at hl 3 rfl) ?_
            refine kM_v (As := [.int x1, .int x2]) (rest := []) (q0 := 12) ⟨hx, hb, hml, hown, hts⟩ (t_X6_begin12 l D cy a _ J (va_up (va_up (va_up (va_up (va_up (va_up (va_up (va_up (va_up I 10 (I 10)) 385 (I 385)) 386 (I 386)) 449 (I 449)) 450 (I 450)) 513 (I 513)) 514 (I 514)) 577 (I 577)) 578 (I 578)) O (va_up (va_up (va_up (va_up R 13 (R 13)) 15 (R 15)) 17 (R 17)) 19 (R 19)) RO LL Y x1 x2 (in17 c_5 c_6) ⟨hM.1, hM.2.1, hM.2.2.1, hM.2.2.2.1, hM.2.2.2.2.1, hM.2.2.2.2.2.1, hM.2.2.2.2.2.2.1, hM.2.2.2.2.2.2.2.1, hRO0, hRO1, hRO2, hRO3⟩ ) (cwV 2 hts gX9_sheet_X6_begin rfl rfl rfl (by decide +kernel) ⟨Nat.le_of_ble_eq_true rfl, Nat.le_of_ble_eq_true rfl⟩) hK hN hP hD hS hA rfl rfl rfl hl.1 rfl (Nat.le_of_ble_eq_true rfl) dX9_sheet_69 ⟨Nat.le_of_ble_eq_true rfl, Nat.le_of_ble_eq_true rfl⟩ (fun u H locs hw hP hD hS => ?_)
            obtain ⟨w_9, w_10, w_11, ⟨hi_12, hp_13⟩, rfl⟩ := hw
            have hP : va_P D vwCl (CT cy a J (va_up (va_up (va_up (va_up (va_up (va_up (va_up (va_up (va_up I 10 (I 10)) 385 w_9) 386 w_10) 449 (I 449)) 450 (I 450)) 513 (I 513)) 514 (I 514)) 577 (I 577)) 578 (I 578)) O (va_up (va_up (va_up (va_up R 13 w_11) 15 (R 15)) 17 (R 17)) 19 (R 19)) RO (LL ++ Y)) H := hP
            have hD : va_D A (CT cy a J (va_up (va_up (va_up (va_up (va_up (va_up (va_up (va_up (va_up I 10 (I 10)) 385 w_9) 386 w_10) 449 (I 449)) 450 (I 450)) 513 (I 513)) 514 (I 514)) 577 (I 577)) 578 (I 578)) O (va_up (va_up (va_up (va_up R 13 w_11) 15 (R 15)) 17 (R 17)) 19 (R 19)) RO (LL ++ Y)) := hD
            refine lv_aload_n hx hb dX9_sheet_72 rfl (lv_at hl 0 rfl) ?_
            refine va_get (D := D) (ci := 8) (v := .ref (a 1)) (C := RX9) (T := TX9) (N := 11) hx hb hts hi9 hown hK hP 0 rfl rfl 0 (by decide) hw1 (fun _ h9 => h9) rfl dX9_sheet_73 ?_
            refine lv_iload_n hx hb dX9_sheet_76 rfl (lv_at hl 1 rfl) ?_
            refine va_aldq hx hb hK hP 1 4 rfl rfl (within_in4 c_1) dX9_sheet_77 ?_
            refine wtop_v (y := .ref (a 12)) (by rw [hj_7]; exact congrArg va_rf hRO0) ?_
            refine va_get (D := D) (ci := 5) (v := .int w_10) (C := RX6) (T := TX6) (N := 3) hx hb hts hi6 hown hK hP 12 rfl rfl 2 (by decide) hw2 (fun _ h9 => h9) rfl dX9_sheet_78 ?_
            exact wret_i hx hb hr hlocks (J, (va_up (va_up (va_up (va_up (va_up (va_up (va_up (va_up (va_up I 10 (I 10)) 385 w_9) 386 w_10) 449 (I 449)) 450 (I 450)) 513 (I 513)) 514 (I 514)) 577 (I 577)) 578 (I 578)), O, (va_up (va_up (va_up (va_up R 13 w_11) 15 (R 15)) 17 (R 17)) 19 (R 19)), RO, LL, Y) ⟨(I 10), w_9, w_10, (I 449), (I 450), (I 513), (I 514), (I 577), (I 578), w_11, (R 15), (R 17), (R 19), ⟨(hp_13.trans (sh_ok c_1 (Or.inl c_4) c_5 c_6).symm), hi_12, hM.2.2.2.2.2.1, hM.2.2.2.2.2.2.1, hM.2.2.2.2.2.2.2.1⟩, rfl⟩ hP hD hS dX9_sheet_81
          · refine wtop_v (y := .ref (a 14)) (by rw [hj_7]; exact congrArg va_rf hRO1) ?_
            refine lv_iload_n hx hb dX9_sheet_67 rfl (lv_at hl 2 rfl) ?_
            refine lv_iload_n hx hb dX9_sheet_68 rfl (lv_at hl 3 rfl) ?_
            refine kM_v (As := [.int x1, .int x2]) (rest := []) (q0 := 14) ⟨hx, hb, hml, hown, hts⟩ (t_X6_begin14 l D cy a _ J (va_up (va_up (va_up (va_up (va_up (va_up (va_up (va_up (va_up I 10 (I 10)) 385 (I 385)) 386 (I 386)) 449 (I 449)) 450 (I 450)) 513 (I 513)) 514 (I 514)) 577 (I 577)) 578 (I 578)) O (va_up (va_up (va_up (va_up R 13 (R 13)) 15 (R 15)) 17 (R 17)) 19 (R 19)) RO LL Y x1 x2 (in17 c_5 c_6) ⟨hM.1, hM.2.1, hM.2.2.1, hM.2.2.2.1, hM.2.2.2.2.1, hM.2.2.2.2.2.1, hM.2.2.2.2.2.2.1, hM.2.2.2.2.2.2.2.1, hRO0, hRO1, hRO2, hRO3⟩ ) (cwV 2 hts gX9_sheet_X6_begin rfl rfl rfl (by decide +kernel) ⟨Nat.le_of_ble_eq_true rfl, Nat.le_of_ble_eq_true rfl⟩) hK hN hP hD hS hA rfl rfl rfl hl.1 rfl (Nat.le_of_ble_eq_true rfl) dX9_sheet_69 ⟨Nat.le_of_ble_eq_true rfl, Nat.le_of_ble_eq_true rfl⟩ (fun u H locs hw hP hD hS => ?_)
            obtain ⟨w_15, w_16, w_17, ⟨hi_18, hp_19⟩, rfl⟩ := hw
            have hP : va_P D vwCl (CT cy a J (va_up (va_up (va_up (va_up (va_up (va_up (va_up (va_up (va_up I 10 (I 10)) 385 (I 385)) 386 (I 386)) 449 w_15) 450 w_16) 513 (I 513)) 514 (I 514)) 577 (I 577)) 578 (I 578)) O (va_up (va_up (va_up (va_up R 13 (R 13)) 15 w_17) 17 (R 17)) 19 (R 19)) RO (LL ++ Y)) H := hP
            have hD : va_D A (CT cy a J (va_up (va_up (va_up (va_up (va_up (va_up (va_up (va_up (va_up I 10 (I 10)) 385 (I 385)) 386 (I 386)) 449 w_15) 450 w_16) 513 (I 513)) 514 (I 514)) 577 (I 577)) 578 (I 578)) O (va_up (va_up (va_up (va_up R 13 (R 13)) 15 w_17) 17 (R 17)) 19 (R 19)) RO (LL ++ Y)) := hD
            refine lv_aload_n hx hb dX9_sheet_72 rfl (lv_at hl 0 rfl) ?_
            refine va_get (D := D) (ci := 8) (v := .ref (a 1)) (C := RX9) (T := TX9) (N := 11) hx hb hts hi9 hown hK hP 0 rfl rfl 0 (by decide) hw1 (fun _ h9 => h9) rfl dX9_sheet_73 ?_
            refine lv_iload_n hx hb dX9_sheet_76 rfl (lv_at hl 1 rfl) ?_
            refine va_aldq hx hb hK hP 1 4 rfl rfl (within_in4 c_1) dX9_sheet_77 ?_
            refine wtop_v (y := .ref (a 14)) (by rw [hj_7]; exact congrArg va_rf hRO1) ?_
            refine va_get (D := D) (ci := 5) (v := .int w_16) (C := RX6) (T := TX6) (N := 3) hx hb hts hi6 hown hK hP 14 rfl rfl 2 (by decide) hw2 (fun _ h9 => h9) rfl dX9_sheet_78 ?_
            exact wret_i hx hb hr hlocks (J, (va_up (va_up (va_up (va_up (va_up (va_up (va_up (va_up (va_up I 10 (I 10)) 385 (I 385)) 386 (I 386)) 449 w_15) 450 w_16) 513 (I 513)) 514 (I 514)) 577 (I 577)) 578 (I 578)), O, (va_up (va_up (va_up (va_up R 13 (R 13)) 15 w_17) 17 (R 17)) 19 (R 19)), RO, LL, Y) ⟨(I 10), (I 385), (I 386), w_15, w_16, (I 513), (I 514), (I 577), (I 578), (R 13), w_17, (R 17), (R 19), ⟨(hp_19.trans (sh_ok c_1 (Or.inl c_4) c_5 c_6).symm), hM.2.2.2.2.1, hi_18, hM.2.2.2.2.2.2.1, hM.2.2.2.2.2.2.2.1⟩, rfl⟩ hP hD hS dX9_sheet_81
          · refine wtop_v (y := .ref (a 16)) (by rw [hj_7]; exact congrArg va_rf hRO2) ?_
            refine lv_iload_n hx hb dX9_sheet_67 rfl (lv_at hl 2 rfl) ?_
            refine lv_iload_n hx hb dX9_sheet_68 rfl (lv_at hl 3 rfl) ?_
            refine kM_v (As := [.int x1, .int x2]) (rest := []) (q0 := 16) ⟨hx, hb, hml, hown, hts⟩ (t_X6_begin16 l D cy a _ J (va_up (va_up (va_up (va_up (va_up (va_up (va_up (va_up (va_up I 10 (I 10)) 385 (I 385)) 386 (I 386)) 449 (I 449)) 450 (I 450)) 513 (I 513)) 514 (I 514)) 577 (I 577)) 578 (I 578)) O (va_up (va_up (va_up (va_up R 13 (R 13)) 15 (R 15)) 17 (R 17)) 19 (R 19)) RO LL Y x1 x2 (in17 c_5 c_6) ⟨hM.1, hM.2.1, hM.2.2.1, hM.2.2.2.1, hM.2.2.2.2.1, hM.2.2.2.2.2.1, hM.2.2.2.2.2.2.1, hM.2.2.2.2.2.2.2.1, hRO0, hRO1, hRO2, hRO3⟩ ) (cwV 2 hts gX9_sheet_X6_begin rfl rfl rfl (by decide +kernel) ⟨Nat.le_of_ble_eq_true rfl, Nat.le_of_ble_eq_true rfl⟩) hK hN hP hD hS hA rfl rfl rfl hl.1 rfl (Nat.le_of_ble_eq_true rfl) dX9_sheet_69 ⟨Nat.le_of_ble_eq_true rfl, Nat.le_of_ble_eq_true rfl⟩ (fun u H locs hw hP hD hS => ?_)
            obtain ⟨w_21, w_22, w_23, ⟨hi_24, hp_25⟩, rfl⟩ := hw
            have hP : va_P D vwCl (CT cy a J (va_up (va_up (va_up (va_up (va_up (va_up (va_up (va_up (va_up I 10 (I 10)) 385 (I 385)) 386 (I 386)) 449 (I 449)) 450 (I 450)) 513 w_21) 514 w_22) 577 (I 577)) 578 (I 578)) O (va_up (va_up (va_up (va_up R 13 (R 13)) 15 (R 15)) 17 w_23) 19 (R 19)) RO (LL ++ Y)) H := hP
            have hD : va_D A (CT cy a J (va_up (va_up (va_up (va_up (va_up (va_up (va_up (va_up (va_up I 10 (I 10)) 385 (I 385)) 386 (I 386)) 449 (I 449)) 450 (I 450)) 513 w_21) 514 w_22) 577 (I 577)) 578 (I 578)) O (va_up (va_up (va_up (va_up R 13 (R 13)) 15 (R 15)) 17 w_23) 19 (R 19)) RO (LL ++ Y)) := hD
            refine lv_aload_n hx hb dX9_sheet_72 rfl (lv_at hl 0 rfl) ?_
            refine va_get (D := D) (ci := 8) (v := .ref (a 1)) (C := RX9) (T := TX9) (N := 11) hx hb hts hi9 hown hK hP 0 rfl rfl 0 (by decide) hw1 (fun _ h9 => h9) rfl dX9_sheet_73 ?_
            refine lv_iload_n hx hb dX9_sheet_76 rfl (lv_at hl 1 rfl) ?_
            refine va_aldq hx hb hK hP 1 4 rfl rfl (within_in4 c_1) dX9_sheet_77 ?_
            refine wtop_v (y := .ref (a 16)) (by rw [hj_7]; exact congrArg va_rf hRO2) ?_
            refine va_get (D := D) (ci := 5) (v := .int w_22) (C := RX6) (T := TX6) (N := 3) hx hb hts hi6 hown hK hP 16 rfl rfl 2 (by decide) hw2 (fun _ h9 => h9) rfl dX9_sheet_78 ?_
            exact wret_i hx hb hr hlocks (J, (va_up (va_up (va_up (va_up (va_up (va_up (va_up (va_up (va_up I 10 (I 10)) 385 (I 385)) 386 (I 386)) 449 (I 449)) 450 (I 450)) 513 w_21) 514 w_22) 577 (I 577)) 578 (I 578)), O, (va_up (va_up (va_up (va_up R 13 (R 13)) 15 (R 15)) 17 w_23) 19 (R 19)), RO, LL, Y) ⟨(I 10), (I 385), (I 386), (I 449), (I 450), w_21, w_22, (I 577), (I 578), (R 13), (R 15), w_23, (R 19), ⟨(hp_25.trans (sh_ok c_1 (Or.inl c_4) c_5 c_6).symm), hM.2.2.2.2.1, hM.2.2.2.2.2.1, hi_24, hM.2.2.2.2.2.2.2.1⟩, rfl⟩ hP hD hS dX9_sheet_81
          · refine wtop_v (y := .ref (a 18)) (by rw [hj_7]; exact congrArg va_rf hRO3) ?_
            refine lv_iload_n hx hb dX9_sheet_67 rfl (lv_at hl 2 rfl) ?_
            refine lv_iload_n hx hb dX9_sheet_68 rfl (lv_at hl 3 rfl) ?_
            refine kM_v (As := [.int x1, .int x2]) (rest := []) (q0 := 18) ⟨hx, hb, hml, hown, hts⟩ (t_X6_begin18 l D cy a _ J (va_up (va_up (va_up (va_up (va_up (va_up (va_up (va_up (va_up I 10 (I 10)) 385 (I 385)) 386 (I 386)) 449 (I 449)) 450 (I 450)) 513 (I 513)) 514 (I 514)) 577 (I 577)) 578 (I 578)) O (va_up (va_up (va_up (va_up R 13 (R 13)) 15 (R 15)) 17 (R 17)) 19 (R 19)) RO LL Y x1 x2 (in17 c_5 c_6) ⟨hM.1, hM.2.1, hM.2.2.1, hM.2.2.2.1, hM.2.2.2.2.1, hM.2.2.2.2.2.1, hM.2.2.2.2.2.2.1, hM.2.2.2.2.2.2.2.1, hRO0, hRO1, hRO2, hRO3⟩ ) (cwV 2 hts gX9_sheet_X6_begin rfl rfl rfl (by decide +kernel) ⟨Nat.le_of_ble_eq_true rfl, Nat.le_of_ble_eq_true rfl⟩) hK hN hP hD hS hA rfl rfl rfl hl.1 rfl (Nat.le_of_ble_eq_true rfl) dX9_sheet_69 ⟨Nat.le_of_ble_eq_true rfl, Nat.le_of_ble_eq_true rfl⟩ (fun u H locs hw hP hD hS => ?_)
            obtain ⟨w_27, w_28, w_29, ⟨hi_30, hp_31⟩, rfl⟩ := hw
            have hP : va_P D vwCl (CT cy a J (va_up (va_up (va_up (va_up (va_up (va_up (va_up (va_up (va_up I 10 (I 10)) 385 (I 385)) 386 (I 386)) 449 (I 449)) 450 (I 450)) 513 (I 513)) 514 (I 514)) 577 w_27) 578 w_28) O (va_up (va_up (va_up (va_up R 13 (R 13)) 15 (R 15)) 17 (R 17)) 19 w_29) RO (LL ++ Y)) H := hP
            have hD : va_D A (CT cy a J (va_up (va_up (va_up (va_up (va_up (va_up (va_up (va_up (va_up I 10 (I 10)) 385 (I 385)) 386 (I 386)) 449 (I 449)) 450 (I 450)) 513 (I 513)) 514 (I 514)) 577 w_27) 578 w_28) O (va_up (va_up (va_up (va_up R 13 (R 13)) 15 (R 15)) 17 (R 17)) 19 w_29) RO (LL ++ Y)) := hD
            refine lv_aload_n hx hb dX9_sheet_72 rfl (lv_at hl 0 rfl) ?_
            refine va_get (D := D) (ci := 8) (v := .ref (a 1)) (C := RX9) (T := TX9) (N := 11) hx hb hts hi9 hown hK hP 0 rfl rfl 0 (by decide) hw1 (fun _ h9 => h9) rfl dX9_sheet_73 ?_
            refine lv_iload_n hx hb dX9_sheet_76 rfl (lv_at hl 1 rfl) ?_
            refine va_aldq hx hb hK hP 1 4 rfl rfl (within_in4 c_1) dX9_sheet_77 ?_
            refine wtop_v (y := .ref (a 18)) (by rw [hj_7]; exact congrArg va_rf hRO3) ?_
            refine va_get (D := D) (ci := 5) (v := .int w_28) (C := RX6) (T := TX6) (N := 3) hx hb hts hi6 hown hK hP 18 rfl rfl 2 (by decide) hw2 (fun _ h9 => h9) rfl dX9_sheet_78 ?_
            exact wret_i hx hb hr hlocks (J, (va_up (va_up (va_up (va_up (va_up (va_up (va_up (va_up (va_up I 10 (I 10)) 385 (I 385)) 386 (I 386)) 449 (I 449)) 450 (I 450)) 513 (I 513)) 514 (I 514)) 577 w_27) 578 w_28), O, (va_up (va_up (va_up (va_up R 13 (R 13)) 15 (R 15)) 17 (R 17)) 19 w_29), RO, LL, Y) ⟨(I 10), (I 385), (I 386), (I 449), (I 450), (I 513), (I 514), w_27, w_28, (R 13), (R 15), (R 17), w_29, ⟨(hp_31.trans (sh_ok c_1 (Or.inl c_4) c_5 c_6).symm), hM.2.2.2.2.1, hM.2.2.2.2.2.1, hM.2.2.2.2.2.2.1, hi_30⟩, rfl⟩ hP hD hS dX9_sheet_81
        · refine lv_aload_n hx hb dX9_sheet_54 rfl (lv_at hl 0 rfl) ?_
          refine lv_ldc (v := (-100001)) hx hb hown hw0 dX9_sheet_55 ?_
          refine kM_i (As := [.int (-100001)]) (rest := []) (q0 := 0) ⟨hx, hb, hml, hown, hts⟩ (t_X9_finding l D cy a _ J (va_up (va_up (va_up (va_up (va_up (va_up (va_up (va_up (va_up I 10 (I 10)) 385 (I 385)) 386 (I 386)) 449 (I 449)) 450 (I 450)) 513 (I 513)) 514 (I 514)) 577 (I 577)) 578 (I 578)) O (va_up (va_up (va_up (va_up R 13 (R 13)) 15 (R 15)) 17 (R 17)) 19 (R 19)) RO LL Y ((-100001) : Int32)   ) (cwV 1 hts gX9_sheet_X9_finding rfl rfl rfl (by decide +kernel) ⟨Nat.le_of_ble_eq_true rfl, Nat.le_of_ble_eq_true rfl⟩) hK hN hP hD hS hA rfl rfl rfl hl.1 rfl (Nat.le_of_ble_eq_true rfl) dX9_sheet_57 ⟨Nat.le_of_ble_eq_true rfl, Nat.le_of_ble_eq_true rfl⟩ (fun r_32 u H locs hw hP hD hS => ?_)
          obtain ⟨w_33, rfl, rfl⟩ := hw
          have hP : va_P D vwCl (CT cy a J (va_up (va_up (va_up (va_up (va_up (va_up (va_up (va_up (va_up I 10 w_33) 385 (I 385)) 386 (I 386)) 449 (I 449)) 450 (I 450)) 513 (I 513)) 514 (I 514)) 577 (I 577)) 578 (I 578)) O (va_up (va_up (va_up (va_up R 13 (R 13)) 15 (R 15)) 17 (R 17)) 19 (R 19)) RO (LL ++ Y)) H := hP
          have hD : va_D A (CT cy a J (va_up (va_up (va_up (va_up (va_up (va_up (va_up (va_up (va_up I 10 w_33) 385 (I 385)) 386 (I 386)) 449 (I 449)) 450 (I 450)) 513 (I 513)) 514 (I 514)) 577 (I 577)) 578 (I 578)) O (va_up (va_up (va_up (va_up R 13 (R 13)) 15 (R 15)) 17 (R 17)) 19 (R 19)) RO (LL ++ Y)) := hD
          exact wret_i hx hb hr hlocks (J, (va_up (va_up (va_up (va_up (va_up (va_up (va_up (va_up (va_up I 10 w_33) 385 (I 385)) 386 (I 386)) 449 (I 449)) 450 (I 450)) 513 (I 513)) 514 (I 514)) 577 (I 577)) 578 (I 578)), O, (va_up (va_up (va_up (va_up R 13 (R 13)) 15 (R 15)) 17 (R 17)) 19 (R 19)), RO, LL, Y) ⟨w_33, (I 385), (I 386), (I 449), (I 450), (I 513), (I 514), (I 577), (I 578), (R 13), (R 15), (R 17), (R 19), ⟨(sh_big c_1 (Or.inl c_4) c_5 c_6), hM.2.2.2.2.1, hM.2.2.2.2.2.1, hM.2.2.2.2.2.2.1, hM.2.2.2.2.2.2.2.1⟩, rfl⟩ hP hD hS dX9_sheet_60
      · refine lv_aload_n hx hb dX9_sheet_41 rfl (lv_at hl 0 rfl) ?_
        refine lv_ldc (v := (-100003)) hx hb hown hw3 dX9_sheet_42 ?_
        refine kM_i (As := [.int (-100003)]) (rest := []) (q0 := 0) ⟨hx, hb, hml, hown, hts⟩ (t_X9_finding l D cy a _ J (va_up (va_up (va_up (va_up (va_up (va_up (va_up (va_up (va_up I 10 (I 10)) 385 (I 385)) 386 (I 386)) 449 (I 449)) 450 (I 450)) 513 (I 513)) 514 (I 514)) 577 (I 577)) 578 (I 578)) O (va_up (va_up (va_up (va_up R 13 (R 13)) 15 (R 15)) 17 (R 17)) 19 (R 19)) RO LL Y ((-100003) : Int32)   ) (cwV 1 hts gX9_sheet_X9_finding rfl rfl rfl (by decide +kernel) ⟨Nat.le_of_ble_eq_true rfl, Nat.le_of_ble_eq_true rfl⟩) hK hN hP hD hS hA rfl rfl rfl hl.1 rfl (Nat.le_of_ble_eq_true rfl) dX9_sheet_44 ⟨Nat.le_of_ble_eq_true rfl, Nat.le_of_ble_eq_true rfl⟩ (fun r_34 u H locs hw hP hD hS => ?_)
        obtain ⟨w_35, rfl, rfl⟩ := hw
        have hP : va_P D vwCl (CT cy a J (va_up (va_up (va_up (va_up (va_up (va_up (va_up (va_up (va_up I 10 w_35) 385 (I 385)) 386 (I 386)) 449 (I 449)) 450 (I 450)) 513 (I 513)) 514 (I 514)) 577 (I 577)) 578 (I 578)) O (va_up (va_up (va_up (va_up R 13 (R 13)) 15 (R 15)) 17 (R 17)) 19 (R 19)) RO (LL ++ Y)) H := hP
        have hD : va_D A (CT cy a J (va_up (va_up (va_up (va_up (va_up (va_up (va_up (va_up (va_up I 10 w_35) 385 (I 385)) 386 (I 386)) 449 (I 449)) 450 (I 450)) 513 (I 513)) 514 (I 514)) 577 (I 577)) 578 (I 578)) O (va_up (va_up (va_up (va_up R 13 (R 13)) 15 (R 15)) 17 (R 17)) 19 (R 19)) RO (LL ++ Y)) := hD
        exact wret_i hx hb hr hlocks (J, (va_up (va_up (va_up (va_up (va_up (va_up (va_up (va_up (va_up I 10 w_35) 385 (I 385)) 386 (I 386)) 449 (I 449)) 450 (I 450)) 513 (I 513)) 514 (I 514)) 577 (I 577)) 578 (I 578)), O, (va_up (va_up (va_up (va_up R 13 (R 13)) 15 (R 15)) 17 (R 17)) 19 (R 19)), RO, LL, Y) ⟨w_35, (I 385), (I 386), (I 449), (I 450), (I 513), (I 514), (I 577), (I 578), (R 13), (R 15), (R 17), (R 19), ⟨(sh_sz c_1 (Or.inl c_4) c_5), hM.2.2.2.2.1, hM.2.2.2.2.2.1, hM.2.2.2.2.2.2.1, hM.2.2.2.2.2.2.2.1⟩, rfl⟩ hP hD hS dX9_sheet_47
    · refine lv_iload_n hx hb dX9_sheet_12 rfl (lv_at hl 2 rfl) ?_
      refine lv_bipush (v := 8) hx hb dX9_sheet_13 (by decide) ?_
      refine lv_icmp_eq (tgt := 37) hx hb dX9_sheet_15 (by decide) (fun c_36 => ?_) (fun c_36 => ?_)
      · refine lv_iload_n hx hb dX9_sheet_37 rfl (lv_at hl 3 rfl) ?_
        refine lv_if_ge (tgt := 48) hx hb dX9_sheet_38 (by decide) (fun c_37 => ?_) (fun c_37 => ?_)
        · refine lv_iload_n hx hb dX9_sheet_48 rfl (lv_at hl 3 rfl) ?_
          refine lv_bipush (v := 16) hx hb dX9_sheet_49 (by decide) ?_
          refine lv_icmp_le (tgt := 61) hx hb dX9_sheet_51 (by decide) (fun c_38 => ?_) (fun c_38 => ?_)
          · refine lv_aload_n hx hb dX9_sheet_61 rfl (lv_at hl 0 rfl) ?_
            refine va_get (D := D) (ci := 8) (v := .ref (a 1)) (C := RX9) (T := TX9) (N := 11) hx hb hts hi9 hown hK hP 0 rfl rfl 0 (by decide) hw1 (fun _ h9 => h9) rfl dX9_sheet_62 ?_
            refine lv_iload_n hx hb dX9_sheet_65 rfl (lv_at hl 1 rfl) ?_
            refine va_aldq hx hb hK hP 1 4 rfl rfl (within_in4 c_1) dX9_sheet_66 ?_
            rcases in4 (within_in4 c_1) with hj_39 | hj_39 | hj_39 | hj_39
            · refine wtop_v (y := .ref (a 12)) (by rw [hj_39]; exact congrArg va_rf hRO0) ?_
              refine lv_iload_n hx hb dX9_sheet_67 rfl (lv_at hl 2 rfl) ?_
              refine lv_iload_n hx hb dX9_sheet_68 rfl (lv_at hl 3 rfl) ?_
              refine kM_v (As := [.int x1, .int x2]) (rest := []) (q0 := 12) ⟨hx, hb, hml, hown, hts⟩ (t_X6_begin12 l D cy a _ J (va_up (va_up (va_up (va_up (va_up (va_up (va_up (va_up (va_up I 10 (I 10)) 385 (I 385)) 386 (I 386)) 449 (I 449)) 450 (I 450)) 513 (I 513)) 514 (I 514)) 577 (I 577)) 578 (I 578)) O (va_up (va_up (va_up (va_up R 13 (R 13)) 15 (R 15)) 17 (R 17)) 19 (R 19)) RO LL Y x1 x2 (in17 c_37 c_38) ⟨hM.1, hM.2.1, hM.2.2.1, hM.2.2.2.1, hM.2.2.2.2.1, hM.2.2.2.2.2.1, hM.2.2.2.2.2.2.1, hM.2.2.2.2.2.2.2.1, hRO0, hRO1, hRO2, hRO3⟩ ) (cwV 2 hts gX9_sheet_X6_begin rfl rfl rfl (by decide +kernel) ⟨Nat.le_of_ble_eq_true rfl, Nat.le_of_ble_eq_true rfl⟩) hK hN hP hD hS hA rfl rfl rfl hl.1 rfl (Nat.le_of_ble_eq_true rfl) dX9_sheet_69 ⟨Nat.le_of_ble_eq_true rfl, Nat.le_of_ble_eq_true rfl⟩ (fun u H locs hw hP hD hS => ?_)
              obtain ⟨w_41, w_42, w_43, ⟨hi_44, hp_45⟩, rfl⟩ := hw
              have hP : va_P D vwCl (CT cy a J (va_up (va_up (va_up (va_up (va_up (va_up (va_up (va_up (va_up I 10 (I 10)) 385 w_41) 386 w_42) 449 (I 449)) 450 (I 450)) 513 (I 513)) 514 (I 514)) 577 (I 577)) 578 (I 578)) O (va_up (va_up (va_up (va_up R 13 w_43) 15 (R 15)) 17 (R 17)) 19 (R 19)) RO (LL ++ Y)) H := hP
              have hD : va_D A (CT cy a J (va_up (va_up (va_up (va_up (va_up (va_up (va_up (va_up (va_up I 10 (I 10)) 385 w_41) 386 w_42) 449 (I 449)) 450 (I 450)) 513 (I 513)) 514 (I 514)) 577 (I 577)) 578 (I 578)) O (va_up (va_up (va_up (va_up R 13 w_43) 15 (R 15)) 17 (R 17)) 19 (R 19)) RO (LL ++ Y)) := hD
              refine lv_aload_n hx hb dX9_sheet_72 rfl (lv_at hl 0 rfl) ?_
              refine va_get (D := D) (ci := 8) (v := .ref (a 1)) (C := RX9) (T := TX9) (N := 11) hx hb hts hi9 hown hK hP 0 rfl rfl 0 (by decide) hw1 (fun _ h9 => h9) rfl dX9_sheet_73 ?_
              refine lv_iload_n hx hb dX9_sheet_76 rfl (lv_at hl 1 rfl) ?_
              refine va_aldq hx hb hK hP 1 4 rfl rfl (within_in4 c_1) dX9_sheet_77 ?_
              refine wtop_v (y := .ref (a 12)) (by rw [hj_39]; exact congrArg va_rf hRO0) ?_
              refine va_get (D := D) (ci := 5) (v := .int w_42) (C := RX6) (T := TX6) (N := 3) hx hb hts hi6 hown hK hP 12 rfl rfl 2 (by decide) hw2 (fun _ h9 => h9) rfl dX9_sheet_78 ?_
              exact wret_i hx hb hr hlocks (J, (va_up (va_up (va_up (va_up (va_up (va_up (va_up (va_up (va_up I 10 (I 10)) 385 w_41) 386 w_42) 449 (I 449)) 450 (I 450)) 513 (I 513)) 514 (I 514)) 577 (I 577)) 578 (I 578)), O, (va_up (va_up (va_up (va_up R 13 w_43) 15 (R 15)) 17 (R 17)) 19 (R 19)), RO, LL, Y) ⟨(I 10), w_41, w_42, (I 449), (I 450), (I 513), (I 514), (I 577), (I 578), w_43, (R 15), (R 17), (R 19), ⟨(hp_45.trans (sh_ok c_1 (Or.inr (Or.inl c_36)) c_37 c_38).symm), hi_44, hM.2.2.2.2.2.1, hM.2.2.2.2.2.2.1, hM.2.2.2.2.2.2.2.1⟩, rfl⟩ hP hD hS dX9_sheet_81
            · refine wtop_v (y := .ref (a 14)) (by rw [hj_39]; exact congrArg va_rf hRO1) ?_
              refine lv_iload_n hx hb dX9_sheet_67 rfl (lv_at hl 2 rfl) ?_
              refine lv_iload_n hx hb dX9_sheet_68 rfl (lv_at hl 3 rfl) ?_
              refine kM_v (As := [.int x1, .int x2]) (rest := []) (q0 := 14) ⟨hx, hb, hml, hown, hts⟩ (t_X6_begin14 l D cy a _ J (va_up (va_up (va_up (va_up (va_up (va_up (va_up (va_up (va_up I 10 (I 10)) 385 (I 385)) 386 (I 386)) 449 (I 449)) 450 (I 450)) 513 (I 513)) 514 (I 514)) 577 (I 577)) 578 (I 578)) O (va_up (va_up (va_up (va_up R 13 (R 13)) 15 (R 15)) 17 (R 17)) 19 (R 19)) RO LL Y x1 x2 (in17 c_37 c_38) ⟨hM.1, hM.2.1, hM.2.2.1, hM.2.2.2.1, hM.2.2.2.2.1, hM.2.2.2.2.2.1, hM.2.2.2.2.2.2.1, hM.2.2.2.2.2.2.2.1, hRO0, hRO1, hRO2, hRO3⟩ ) (cwV 2 hts gX9_sheet_X6_begin rfl rfl rfl (by decide +kernel) ⟨Nat.le_of_ble_eq_true rfl, Nat.le_of_ble_eq_true rfl⟩) hK hN hP hD hS hA rfl rfl rfl hl.1 rfl (Nat.le_of_ble_eq_true rfl) dX9_sheet_69 ⟨Nat.le_of_ble_eq_true rfl, Nat.le_of_ble_eq_true rfl⟩ (fun u H locs hw hP hD hS => ?_)
              obtain ⟨w_47, w_48, w_49, ⟨hi_50, hp_51⟩, rfl⟩ := hw
              have hP : va_P D vwCl (CT cy a J (va_up (va_up (va_up (va_up (va_up (va_up (va_up (va_up (va_up I 10 (I 10)) 385 (I 385)) 386 (I 386)) 449 w_47) 450 w_48) 513 (I 513)) 514 (I 514)) 577 (I 577)) 578 (I 578)) O (va_up (va_up (va_up (va_up R 13 (R 13)) 15 w_49) 17 (R 17)) 19 (R 19)) RO (LL ++ Y)) H := hP
              have hD : va_D A (CT cy a J (va_up (va_up (va_up (va_up (va_up (va_up (va_up (va_up (va_up I 10 (I 10)) 385 (I 385)) 386 (I 386)) 449 w_47) 450 w_48) 513 (I 513)) 514 (I 514)) 577 (I 577)) 578 (I 578)) O (va_up (va_up (va_up (va_up R 13 (R 13)) 15 w_49) 17 (R 17)) 19 (R 19)) RO (LL ++ Y)) := hD
              refine lv_aload_n hx hb dX9_sheet_72 rfl (lv_at hl 0 rfl) ?_
              refine va_get (D := D) (ci := 8) (v := .ref (a 1)) (C := RX9) (T := TX9) (N := 11) hx hb hts hi9 hown hK hP 0 rfl rfl 0 (by decide) hw1 (fun _ h9 => h9) rfl dX9_sheet_73 ?_
              refine lv_iload_n hx hb dX9_sheet_76 rfl (lv_at hl 1 rfl) ?_
              refine va_aldq hx hb hK hP 1 4 rfl rfl (within_in4 c_1) dX9_sheet_77 ?_
              refine wtop_v (y := .ref (a 14)) (by rw [hj_39]; exact congrArg va_rf hRO1) ?_
              refine va_get (D := D) (ci := 5) (v := .int w_48) (C := RX6) (T := TX6) (N := 3) hx hb hts hi6 hown hK hP 14 rfl rfl 2 (by decide) hw2 (fun _ h9 => h9) rfl dX9_sheet_78 ?_
              exact wret_i hx hb hr hlocks (J, (va_up (va_up (va_up (va_up (va_up (va_up (va_up (va_up (va_up I 10 (I 10)) 385 (I 385)) 386 (I 386)) 449 w_47) 450 w_48) 513 (I 513)) 514 (I 514)) 577 (I 577)) 578 (I 578)), O, (va_up (va_up (va_up (va_up R 13 (R 13)) 15 w_49) 17 (R 17)) 19 (R 19)), RO, LL, Y) ⟨(I 10), (I 385), (I 386), w_47, w_48, (I 513), (I 514), (I 577), (I 578), (R 13), w_49, (R 17), (R 19), ⟨(hp_51.trans (sh_ok c_1 (Or.inr (Or.inl c_36)) c_37 c_38).symm), hM.2.2.2.2.1, hi_50, hM.2.2.2.2.2.2.1, hM.2.2.2.2.2.2.2.1⟩, rfl⟩ hP hD hS dX9_sheet_81
            · refine wtop_v (y := .ref (a 16)) (by rw [hj_39]; exact congrArg va_rf hRO2) ?_
              refine lv_iload_n hx hb dX9_sheet_67 rfl (lv_at hl 2 rfl) ?_
              refine lv_iload_n hx hb dX9_sheet_68 rfl (lv_at hl 3 rfl) ?_
              refine kM_v (As := [.int x1, .int x2]) (rest := []) (q0 := 16) ⟨hx, hb, hml, hown, hts⟩ (t_X6_begin16 l D cy a _ J (va_up (va_up (va_up (va_up (va_up (va_up (va_up (va_up (va_up I 10 (I 10)) 385 (I 385)) 386 (I 386)) 449 (I 449)) 450 (I 450)) 513 (I 513)) 514 (I 514)) 577 (I 577)) 578 (I 578)) O (va_up (va_up (va_up (va_up R 13 (R 13)) 15 (R 15)) 17 (R 17)) 19 (R 19)) RO LL Y x1 x2 (in17 c_37 c_38) ⟨hM.1, hM.2.1, hM.2.2.1, hM.2.2.2.1, hM.2.2.2.2.1, hM.2.2.2.2.2.1, hM.2.2.2.2.2.2.1, hM.2.2.2.2.2.2.2.1, hRO0, hRO1, hRO2, hRO3⟩ ) (cwV 2 hts gX9_sheet_X6_begin rfl rfl rfl (by decide +kernel) ⟨Nat.le_of_ble_eq_true rfl, Nat.le_of_ble_eq_true rfl⟩) hK hN hP hD hS hA rfl rfl rfl hl.1 rfl (Nat.le_of_ble_eq_true rfl) dX9_sheet_69 ⟨Nat.le_of_ble_eq_true rfl, Nat.le_of_ble_eq_true rfl⟩ (fun u H locs hw hP hD hS => ?_)
              obtain ⟨w_53, w_54, w_55, ⟨hi_56, hp_57⟩, rfl⟩ := hw
              have hP : va_P D vwCl (CT cy a J (va_up (va_up (va_up (va_up (va_up (va_up (va_up (va_up (va_up I 10 (I 10)) 385 (I 385)) 386 (I 386)) 449 (I 449)) 450 (I 450)) 513 w_53) 514 w_54) 577 (I 577)) 578 (I 578)) O (va_up (va_up (va_up (va_up R 13 (R 13)) 15 (R 15)) 17 w_55) 19 (R 19)) RO (LL ++ Y)) H := hP
              have hD : va_D A (CT cy a J (va_up (va_up (va_up (va_up (va_up (va_up (va_up (va_up (va_up I 10 (I 10)) 385 (I 385)) 386 (I 386)) 449 (I 449)) 450 (I 450)) 513 w_53) 514 w_54) 577 (I 577)) 578 (I 578)) O (va_up (va_up (va_up (va_up R 13 (R 13)) 15 (R 15)) 17 w_55) 19 (R 19)) RO (LL ++ Y)) := hD
              refine lv_aload_n hx hb dX9_sheet_72 rfl (lv_at hl 0 rfl) ?_
              refine va_get (D := D) (ci := 8) (v := .ref (a 1)) (C := RX9) (T := TX9) (N := 11) hx hb hts hi9 hown hK hP 0 rfl rfl 0 (by decide) hw1 (fun _ h9 => h9) rfl dX9_sheet_73 ?_
              refine lv_iload_n hx hb dX9_sheet_76 rfl (lv_at hl 1 rfl) ?_
              refine va_aldq hx hb hK hP 1 4 rfl rfl (within_in4 c_1) dX9_sheet_77 ?_
              refine wtop_v (y := .ref (a 16)) (by rw [hj_39]; exact congrArg va_rf hRO2) ?_
              refine va_get (D := D) (ci := 5) (v := .int w_54) (C := RX6) (T := TX6) (N := 3) hx hb hts hi6 hown hK hP 16 rfl rfl 2 (by decide) hw2 (fun _ h9 => h9) rfl dX9_sheet_78 ?_
              exact wret_i hx hb hr hlocks (J, (va_up (va_up (va_up (va_up (va_up (va_up (va_up (va_up (va_up I 10 (I 10)) 385 (I 385)) 386 (I 386)) 449 (I 449)) 450 (I 450)) 513 w_53) 514 w_54) 577 (I 577)) 578 (I 578)), O, (va_up (va_up (va_up (va_up R 13 (R 13)) 15 (R 15)) 17 w_55) 19 (R 19)), RO, LL, Y) ⟨(I 10), (I 385), (I 386), (I 449), (I 450), w_53, w_54, (I 577), (I 578), (R 13), (R 15), w_55, (R 19), ⟨(hp_57.trans (sh_ok c_1 (Or.inr (Or.inl c_36)) c_37 c_38).symm), hM.2.2.2.2.1, hM.2.2.2.2.2.1, hi_56, hM.2.2.2.2.2.2.2.1⟩, rfl⟩ hP hD hS dX9_sheet_81
            · refine wtop_v (y := .ref (a 18)) (by rw [hj_39]; exact congrArg va_rf hRO3) ?_
              refine lv_iload_n hx hb dX9_sheet_67 rfl (lv_at hl 2 rfl) ?_
              refine lv_iload_n hx hb dX9_sheet_68 rfl (lv_at hl 3 rfl) ?_
              refine kM_v (As := [.int x1, .int x2]) (rest := []) (q0 := 18) ⟨hx, hb, hml, hown, hts⟩ (t_X6_begin18 l D cy a _ J (va_up (va_up (va_up (va_up (va_up (va_up (va_up (va_up (va_up I 10 (I 10)) 385 (I 385)) 386 (I 386)) 449 (I 449)) 450 (I 450)) 513 (I 513)) 514 (I 514)) 577 (I 577)) 578 (I 578)) O (va_up (va_up (va_up (va_up R 13 (R 13)) 15 (R 15)) 17 (R 17)) 19 (R 19)) RO LL Y x1 x2 (in17 c_37 c_38) ⟨hM.1, hM.2.1, hM.2.2.1, hM.2.2.2.1, hM.2.2.2.2.1, hM.2.2.2.2.2.1, hM.2.2.2.2.2.2.1, hM.2.2.2.2.2.2.2.1, hRO0, hRO1, hRO2, hRO3⟩ ) (cwV 2 hts gX9_sheet_X6_begin rfl rfl rfl (by decide +kernel) ⟨Nat.le_of_ble_eq_true rfl, Nat.le_of_ble_eq_true rfl⟩) hK hN hP hD hS hA rfl rfl rfl hl.1 rfl (Nat.le_of_ble_eq_true rfl) dX9_sheet_69 ⟨Nat.le_of_ble_eq_true rfl, Nat.le_of_ble_eq_true rfl⟩ (fun u H locs hw hP hD hS => ?_)
              obtain ⟨w_59, w_60, w_61, ⟨hi_62, hp_63⟩, rfl⟩ := hw
              have hP : va_P D vwCl (CT cy a J (va_up (va_up (va_up (va_up (va_up (va_up (va_up (va_up (va_up I 10 (I 10)) 385 (I 385)) 386 (I 386)) 449 (I 449)) 450 (I 450)) 513 (I 513)) 514 (I 514)) 577 w_59) 578 w_60) O (va_up (va_up (va_up (va_up R 13 (R 13)) 15 (R 15)) 17 (R 17)) 19 w_61) RO (LL ++ Y)) H := hP
              have hD : va_D A (CT cy a J (va_up (va_up (va_up (va_up (va_up (va_up (va_up (va_up (va_up I 10 (I 10)) 385 (I 385)) 386 (I 386)) 449 (I 449)) 450 (I 450)) 513 (I 513)) 514 (I 514)) 577 w_59) 578 w_60) O (va_up (va_up (va_up (va_up R 13 (R 13)) 15 (R 15)) 17 (R 17)) 19 w_61) RO (LL ++ Y)) := hD
              refine lv_aload_n hx hb dX9_sheet_72 rfl (lv_at hl 0 rfl) ?_
              refine va_get (D := D) (ci := 8) (v := .ref (a 1)) (C := RX9) (T := TX9) (N := 11) hx hb hts hi9 hown hK hP 0 rfl rfl 0 (by decide) hw1 (fun _ h9 => h9) rfl dX9_sheet_73 ?_
              refine lv_iload_n hx hb dX9_sheet_76 rfl (lv_at hl 1 rfl) ?_
              refine va_aldq hx hb hK hP 1 4 rfl rfl (within_in4 c_1) dX9_sheet_77 ?_
              refine wtop_v (y := .ref (a 18)) (by rw [hj_39]; exact congrArg va_rf hRO3) ?_
              refine va_get (D := D) (ci := 5) (v := .int w_60) (C := RX6) (T := TX6) (N := 3) hx hb hts hi6 hown hK hP 18 rfl rfl 2 (by decide) hw2 (fun _ h9 => h9) rfl dX9_sheet_78 ?_
              exact wret_i hx hb hr hlocks (J, (va_up (va_up (va_up (va_up (va_up (va_up (va_up (va_up (va_up I 10 (I 10)) 385 (I 385)) 386 (I 386)) 449 (I 449)) 450 (I 450)) 513 (I 513)) 514 (I 514)) 577 w_59) 578 w_60), O, (va_up (va_up (va_up (va_up R 13 (R 13)) 15 (R 15)) 17 (R 17)) 19 w_61), RO, LL, Y) ⟨(I 10), (I 385), (I 386), (I 449), (I 450), (I 513), (I 514), w_59, w_60, (R 13), (R 15), (R 17), w_61, ⟨(hp_63.trans (sh_ok c_1 (Or.inr (Or.inl c_36)) c_37 c_38).symm), hM.2.2.2.2.1, hM.2.2.2.2.2.1, hM.2.2.2.2.2.2.1, hi_62⟩, rfl⟩ hP hD hS dX9_sheet_81
          · refine lv_aload_n hx hb dX9_sheet_54 rfl (lv_at hl 0 rfl) ?_
            refine lv_ldc (v := (-100001)) hx hb hown hw0 dX9_sheet_55 ?_
            refine kM_i (As := [.int (-100001)]) (rest := []) (q0 := 0) ⟨hx, hb, hml, hown, hts⟩ (t_X9_finding l D cy a _ J (va_up (va_up (va_up (va_up (va_up (va_up (va_up (va_up (va_up I 10 (I 10)) 385 (I 385)) 386 (I 386)) 449 (I 449)) 450 (I 450)) 513 (I 513)) 514 (I 514)) 577 (I 577)) 578 (I 578)) O (va_up (va_up (va_up (va_up R 13 (R 13)) 15 (R 15)) 17 (R 17)) 19 (R 19)) RO LL Y ((-100001) : Int32)   ) (cwV 1 hts gX9_sheet_X9_finding rfl rfl rfl (by decide +kernel) ⟨Nat.le_of_ble_eq_true rfl, Nat.le_of_ble_eq_true rfl⟩) hK hN hP hD hS hA rfl rfl rfl hl.1 rfl (Nat.le_of_ble_eq_true rfl) dX9_sheet_57 ⟨Nat.le_of_ble_eq_true rfl, Nat.le_of_ble_eq_true rfl⟩ (fun r_64 u H locs hw hP hD hS => ?_)
            obtain ⟨w_65, rfl, rfl⟩ := hw
            have hP : va_P D vwCl (CT cy a J (va_up (va_up (va_up (va_up (va_up (va_up (va_up (va_up (va_up I 10 w_65) 385 (I 385)) 386 (I 386)) 449 (I 449)) 450 (I 450)) 513 (I 513)) 514 (I 514)) 577 (I 577)) 578 (I 578)) O (va_up (va_up (va_up (va_up R 13 (R 13)) 15 (R 15)) 17 (R 17)) 19 (R 19)) RO (LL ++ Y)) H := hP
            have hD : va_D A (CT cy a J (va_up (va_up (va_up (va_up (va_up (va_up (va_up (va_up (va_up I 10 w_65) 385 (I 385)) 386 (I 386)) 449 (I 449)) 450 (I 450)) 513 (I 513)) 514 (I 514)) 577 (I 577)) 578 (I 578)) O (va_up (va_up (va_up (va_up R 13 (R 13)) 15 (R 15)) 17 (R 17)) 19 (R 19)) RO (LL ++ Y)) := hD
            exact wret_i hx hb hr hlocks (J, (va_up (va_up (va_up (va_up (va_up (va_up (va_up (va_up (va_up I 10 w_65) 385 (I 385)) 386 (I 386)) 449 (I 449)) 450 (I 450)) 513 (I 513)) 514 (I 514)) 577 (I 577)) 578 (I 578)), O, (va_up (va_up (va_up (va_up R 13 (R 13)) 15 (R 15)) 17 (R 17)) 19 (R 19)), RO, LL, Y) ⟨w_65, (I 385), (I 386), (I 449), (I 450), (I 513), (I 514), (I 577), (I 578), (R 13), (R 15), (R 17), (R 19), ⟨(sh_big c_1 (Or.inr (Or.inl c_36)) c_37 c_38), hM.2.2.2.2.1, hM.2.2.2.2.2.1, hM.2.2.2.2.2.2.1, hM.2.2.2.2.2.2.2.1⟩, rfl⟩ hP hD hS dX9_sheet_60
        · refine lv_aload_n hx hb dX9_sheet_41 rfl (lv_at hl 0 rfl) ?_
          refine lv_ldc (v := (-100003)) hx hb hown hw3 dX9_sheet_42 ?_
          refine kM_i (As := [.int (-100003)]) (rest := []) (q0 := 0) ⟨hx, hb, hml, hown, hts⟩ (t_X9_finding l D cy a _ J (va_up (va_up (va_up (va_up (va_up (va_up (va_up (va_up (va_up I 10 (I 10)) 385 (I 385)) 386 (I 386)) 449 (I 449)) 450 (I 450)) 513 (I 513)) 514 (I 514)) 577 (I 577)) 578 (I 578)) O (va_up (va_up (va_up (va_up R 13 (R 13)) 15 (R 15)) 17 (R 17)) 19 (R 19)) RO LL Y ((-100003) : Int32)   ) (cwV 1 hts gX9_sheet_X9_finding rfl rfl rfl (by decide +kernel) ⟨Nat.le_of_ble_eq_true rfl, Nat.le_of_ble_eq_true rfl⟩) hK hN hP hD hS hA rfl rfl rfl hl.1 rfl (Nat.le_of_ble_eq_true rfl) dX9_sheet_44 ⟨Nat.le_of_ble_eq_true rfl, Nat.le_of_ble_eq_true rfl⟩ (fun r_66 u H locs hw hP hD hS => ?_)
          obtain ⟨w_67, rfl, rfl⟩ := hw
          have hP : va_P D vwCl (CT cy a J (va_up (va_up (va_up (va_up (va_up (va_up (va_up (va_up (va_up I 10 w_67) 385 (I 385)) 386 (I 386)) 449 (I 449)) 450 (I 450)) 513 (I 513)) 514 (I 514)) 577 (I 577)) 578 (I 578)) O (va_up (va_up (va_up (va_up R 13 (R 13)) 15 (R 15)) 17 (R 17)) 19 (R 19)) RO (LL ++ Y)) H := hP
          have hD : va_D A (CT cy a J (va_up (va_up (va_up (va_up (va_up (va_up (va_up (va_up (va_up I 10 w_67) 385 (I 385)) 386 (I 386)) 449 (I 449)) 450 (I 450)) 513 (I 513)) 514 (I 514)) 577 (I 577)) 578 (I 578)) O (va_up (va_up (va_up (va_up R 13 (R 13)) 15 (R 15)) 17 (R 17)) 19 (R 19)) RO (LL ++ Y)) := hD
          exact wret_i hx hb hr hlocks (J, (va_up (va_up (va_up (va_up (va_up (va_up (va_up (va_up (va_up I 10 w_67) 385 (I 385)) 386 (I 386)) 449 (I 449)) 450 (I 450)) 513 (I 513)) 514 (I 514)) 577 (I 577)) 578 (I 578)), O, (va_up (va_up (va_up (va_up R 13 (R 13)) 15 (R 15)) 17 (R 17)) 19 (R 19)), RO, LL, Y) ⟨w_67, (I 385), (I 386), (I 449), (I 450), (I 513), (I 514), (I 577), (I 578), (R 13), (R 15), (R 17), (R 19), ⟨(sh_sz c_1 (Or.inr (Or.inl c_36)) c_37), hM.2.2.2.2.1, hM.2.2.2.2.2.1, hM.2.2.2.2.2.2.1, hM.2.2.2.2.2.2.2.1⟩, rfl⟩ hP hD hS dX9_sheet_47
      · refine lv_iload_n hx hb dX9_sheet_18 rfl (lv_at hl 2 rfl) ?_
        refine lv_bipush (v := 16) hx hb dX9_sheet_19 (by decide) ?_
        refine lv_icmp_eq (tgt := 37) hx hb dX9_sheet_21 (by decide) (fun c_68 => ?_) (fun c_68 => ?_)
        · refine lv_iload_n hx hb dX9_sheet_37 rfl (lv_at hl 3 rfl) ?_
          refine lv_if_ge (tgt := 48) hx hb dX9_sheet_38 (by decide) (fun c_69 => ?_) (fun c_69 => ?_)
          · refine lv_iload_n hx hb dX9_sheet_48 rfl (lv_at hl 3 rfl) ?_
            refine lv_bipush (v := 16) hx hb dX9_sheet_49 (by decide) ?_
            refine lv_icmp_le (tgt := 61) hx hb dX9_sheet_51 (by decide) (fun c_70 => ?_) (fun c_70 => ?_)
            · refine lv_aload_n hx hb dX9_sheet_61 rfl (lv_at hl 0 rfl) ?_
              refine va_get (D := D) (ci := 8) (v := .ref (a 1)) (C := RX9) (T := TX9) (N := 11) hx hb hts hi9 hown hK hP 0 rfl rfl 0 (by decide) hw1 (fun _ h9 => h9) rfl dX9_sheet_62 ?_
              refine lv_iload_n hx hb dX9_sheet_65 rfl (lv_at hl 1 rfl) ?_
              refine va_aldq hx hb hK hP 1 4 rfl rfl (within_in4 c_1) dX9_sheet_66 ?_
              rcases in4 (within_in4 c_1) with hj_71 | hj_71 | hj_71 | hj_71
              · refine wtop_v (y := .ref (a 12)) (by rw [hj_71]; exact congrArg va_rf hRO0) ?_
                refine lv_iload_n hx hb dX9_sheet_67 rfl (lv_at hl 2 rfl) ?_
                refine lv_iload_n hx hb dX9_sheet_68 rfl (lv_at hl 3 rfl) ?_
                refine kM_v (As := [.int x1, .int x2]) (rest := []) (q0 := 12) ⟨hx, hb, hml, hown, hts⟩ (t_X6_begin12 l D cy a _ J (va_up (va_up (va_up (va_up (va_up (va_up (va_up (va_up (va_up I 10 (I 10)) 385 (I 385)) 386 (I 386)) 449 (I 449)) 450 (I 450)) 513 (I 513)) 514 (I 514)) 577 (I 577)) 578 (I 578)) O (va_up (va_up (va_up (va_up R 13 (R 13)) 15 (R 15)) 17 (R 17)) 19 (R 19)) RO LL Y x1 x2 (in17 c_69 c_70) ⟨hM.1, hM.2.1, hM.2.2.1, hM.2.2.2.1, hM.2.2.2.2.1, hM.2.2.2.2.2.1, hM.2.2.2.2.2.2.1, hM.2.2.2.2.2.2.2.1, hRO0, hRO1, hRO2, hRO3⟩ ) (cwV 2 hts gX9_sheet_X6_begin rfl rfl rfl (by decide +kernel) ⟨Nat.le_of_ble_eq_true rfl, Nat.le_of_ble_eq_true rfl⟩) hK hN hP hD hS hA rfl rfl rfl hl.1 rfl (Nat.le_of_ble_eq_true rfl) dX9_sheet_69 ⟨Nat.le_of_ble_eq_true rfl, Nat.le_of_ble_eq_true rfl⟩ (fun u H locs hw hP hD hS => ?_)
                obtain ⟨w_73, w_74, w_75, ⟨hi_76, hp_77⟩, rfl⟩ := hw
                have hP : va_P D vwCl (CT cy a J (va_up (va_up (va_up (va_up (va_up (va_up (va_up (va_up (va_up I 10 (I 10)) 385 w_73) 386 w_74) 449 (I 449)) 450 (I 450)) 513 (I 513)) 514 (I 514)) 577 (I 577)) 578 (I 578)) O (va_up (va_up (va_up (va_up R 13 w_75) 15 (R 15)) 17 (R 17)) 19 (R 19)) RO (LL ++ Y)) H := hP
                have hD : va_D A (CT cy a J (va_up (va_up (va_up (va_up (va_up (va_up (va_up (va_up (va_up I 10 (I 10)) 385 w_73) 386 w_74) 449 (I 449)) 450 (I 450)) 513 (I 513)) 514 (I 514)) 577 (I 577)) 578 (I 578)) O (va_up (va_up (va_up (va_up R 13 w_75) 15 (R 15)) 17 (R 17)) 19 (R 19)) RO (LL ++ Y)) := hD
                refine lv_aload_n hx hb dX9_sheet_72 rfl (lv_at hl 0 rfl) ?_
                refine va_get (D := D) (ci := 8) (v := .ref (a 1)) (C := RX9) (T := TX9) (N := 11) hx hb hts hi9 hown hK hP 0 rfl rfl 0 (by decide) hw1 (fun _ h9 => h9) rfl dX9_sheet_73 ?_
                refine lv_iload_n hx hb dX9_sheet_76 rfl (lv_at hl 1 rfl) ?_
                refine va_aldq hx hb hK hP 1 4 rfl rfl (within_in4 c_1) dX9_sheet_77 ?_
                refine wtop_v (y := .ref (a 12)) (by rw [hj_71]; exact congrArg va_rf hRO0) ?_
                refine va_get (D := D) (ci := 5) (v := .int w_74) (C := RX6) (T := TX6) (N := 3) hx hb hts hi6 hown hK hP 12 rfl rfl 2 (by decide) hw2 (fun _ h9 => h9) rfl dX9_sheet_78 ?_
                exact wret_i hx hb hr hlocks (J, (va_up (va_up (va_up (va_up (va_up (va_up (va_up (va_up (va_up I 10 (I 10)) 385 w_73) 386 w_74) 449 (I 449)) 450 (I 450)) 513 (I 513)) 514 (I 514)) 577 (I 577)) 578 (I 578)), O, (va_up (va_up (va_up (va_up R 13 w_75) 15 (R 15)) 17 (R 17)) 19 (R 19)), RO, LL, Y) ⟨(I 10), w_73, w_74, (I 449), (I 450), (I 513), (I 514), (I 577), (I 578), w_75, (R 15), (R 17), (R 19), ⟨(hp_77.trans (sh_ok c_1 (Or.inr (Or.inr (Or.inl c_68))) c_69 c_70).symm), hi_76, hM.2.2.2.2.2.1, hM.2.2.2.2.2.2.1, hM.2.2.2.2.2.2.2.1⟩, rfl⟩ hP hD hS dX9_sheet_81
              · refine wtop_v (y := .ref (a 14)) (by rw [hj_71]; exact congrArg va_rf hRO1) ?_
                refine lv_iload_n hx hb dX9_sheet_67 rfl (lv_at hl 2 rfl) ?_
                refine lv_iload_n hx hb dX9_sheet_68 rfl (lv_at hl 3 rfl) ?_
                refine kM_v (As := [.int x1, .int x2]) (rest := []) (q0 := 14) ⟨hx, hb, hml, hown, hts⟩ (t_X6_begin14 l D cy a _ J (va_up (va_up (va_up (va_up (va_up (va_up (va_up (va_up (va_up I 10 (I 10)) 385 (I 385)) 386 (I 386)) 449 (I 449)) 450 (I 450)) 513 (I 513)) 514 (I 514)) 577 (I 577)) 578 (I 578)) O (va_up (va_up (va_up (va_up R 13 (R 13)) 15 (R 15)) 17 (R 17)) 19 (R 19)) RO LL Y x1 x2 (in17 c_69 c_70) ⟨hM.1, hM.2.1, hM.2.2.1, hM.2.2.2.1, hM.2.2.2.2.1, hM.2.2.2.2.2.1, hM.2.2.2.2.2.2.1, hM.2.2.2.2.2.2.2.1, hRO0, hRO1, hRO2, hRO3⟩ ) (cwV 2 hts gX9_sheet_X6_begin rfl rfl rfl (by decide +kernel) ⟨Nat.le_of_ble_eq_true rfl, Nat.le_of_ble_eq_true rfl⟩) hK hN hP hD hS hA rfl rfl rfl hl.1 rfl (Nat.le_of_ble_eq_true rfl) dX9_sheet_69 ⟨Nat.le_of_ble_eq_true rfl, Nat.le_of_ble_eq_true rfl⟩ (fun u H locs hw hP hD hS => ?_)
                obtain ⟨w_79, w_80, w_81, ⟨hi_82, hp_83⟩, rfl⟩ := hw
                have hP : va_P D vwCl (CT cy a J (va_up (va_up (va_up (va_up (va_up (va_up (va_up (va_up (va_up I 10 (I 10)) 385 (I 385)) 386 (I 386)) 449 w_79) 450 w_80) 513 (I 513)) 514 (I 514)) 577 (I 577)) 578 (I 578)) O (va_up (va_up (va_up (va_up R 13 (R 13)) 15 w_81) 17 (R 17)) 19 (R 19)) RO (LL ++ Y)) H := hP
                have hD : va_D A (CT cy a J (va_up (va_up (va_up (va_up (va_up (va_up (va_up (va_up (va_up I 10 (I 10)) 385 (I 385)) 386 (I 386)) 449 w_79) 450 w_80) 513 (I 513)) 514 (I 514)) 577 (I 577)) 578 (I 578)) O (va_up (va_up (va_up (va_up R 13 (R 13)) 15 w_81) 17 (R 17)) 19 (R 19)) RO (LL ++ Y)) := hD
                refine lv_aload_n hx hb dX9_sheet_72 rfl (lv_at hl 0 rfl) ?_
                refine va_get (D := D) (ci := 8) (v := .ref (a 1)) (C := RX9) (T := TX9) (N := 11) hx hb hts hi9 hown hK hP 0 rfl rfl 0 (by decide) hw1 (fun _ h9 => h9) rfl dX9_sheet_73 ?_
                refine lv_iload_n hx hb dX9_sheet_76 rfl (lv_at hl 1 rfl) ?_
                refine va_aldq hx hb hK hP 1 4 rfl rfl (within_in4 c_1) dX9_sheet_77 ?_
                refine wtop_v (y := .ref (a 14)) (by rw [hj_71]; exact congrArg va_rf hRO1) ?_
                refine va_get (D := D) (ci := 5) (v := .int w_80) (C := RX6) (T := TX6) (N := 3) hx hb hts hi6 hown hK hP 14 rfl rfl 2 (by decide) hw2 (fun _ h9 => h9) rfl dX9_sheet_78 ?_
                exact wret_i hx hb hr hlocks (J, (va_up (va_up (va_up (va_up (va_up (va_up (va_up (va_up (va_up I 10 (I 10)) 385 (I 385)) 386 (I 386)) 449 w_79) 450 w_80) 513 (I 513)) 514 (I 514)) 577 (I 577)) 578 (I 578)), O, (va_up (va_up (va_up (va_up R 13 (R 13)) 15 w_81) 17 (R 17)) 19 (R 19)), RO, LL, Y) ⟨(I 10), (I 385), (I 386), w_79, w_80, (I 513), (I 514), (I 577), (I 578), (R 13), w_81, (R 17), (R 19), ⟨(hp_83.trans (sh_ok c_1 (Or.inr (Or.inr (Or.inl c_68))) c_69 c_70).symm), hM.2.2.2.2.1, hi_82, hM.2.2.2.2.2.2.1, hM.2.2.2.2.2.2.2.1⟩, rfl⟩ hP hD hS dX9_sheet_81
              · refine wtop_v (y := .ref (a 16)) (by rw [hj_71]; exact congrArg va_rf hRO2) ?_
                refine lv_iload_n hx hb dX9_sheet_67 rfl (lv_at hl 2 rfl) ?_
                refine lv_iload_n hx hb dX9_sheet_68 rfl (lv_at hl 3 rfl) ?_
                refine kM_v (As := [.int x1, .int x2]) (rest := []) (q0 := 16) ⟨hx, hb, hml, hown, hts⟩ (t_X6_begin16 l D cy a _ J (va_up (va_up (va_up (va_up (va_up (va_up (va_up (va_up (va_up I 10 (I 10)) 385 (I 385)) 386 (I 386)) 449 (I 449)) 450 (I 450)) 513 (I 513)) 514 (I 514)) 577 (I 577)) 578 (I 578)) O (va_up (va_up (va_up (va_up R 13 (R 13)) 15 (R 15)) 17 (R 17)) 19 (R 19)) RO LL Y x1 x2 (in17 c_69 c_70) ⟨hM.1, hM.2.1, hM.2.2.1, hM.2.2.2.1, hM.2.2.2.2.1, hM.2.2.2.2.2.1, hM.2.2.2.2.2.2.1, hM.2.2.2.2.2.2.2.1, hRO0, hRO1, hRO2, hRO3⟩ ) (cwV 2 hts gX9_sheet_X6_begin rfl rfl rfl (by decide +kernel) ⟨Nat.le_of_ble_eq_true rfl, Nat.le_of_ble_eq_true rfl⟩) hK hN hP hD hS hA rfl rfl rfl hl.1 rfl (Nat.le_of_ble_eq_true rfl) dX9_sheet_69 ⟨Nat.le_of_ble_eq_true rfl, Nat.le_of_ble_eq_true rfl⟩ (fun u H locs hw hP hD hS => ?_)
                obtain ⟨w_85, w_86, w_87, ⟨hi_88, hp_89⟩, rfl⟩ := hw
                have hP : va_P D vwCl (CT cy a J (va_up (va_up (va_up (va_up (va_up (va_up (va_up (va_up (va_up I 10 (I 10)) 385 (I 385)) 386 (I 386)) 449 (I 449)) 450 (I 450)) 513 w_85) 514 w_86) 577 (I 577)) 578 (I 578)) O (va_up (va_up (va_up (va_up R 13 (R 13)) 15 (R 15)) 17 w_87) 19 (R 19)) RO (LL ++ Y)) H := hP
                have hD : va_D A (CT cy a J (va_up (va_up (va_up (va_up (va_up (va_up (va_up (va_up (va_up I 10 (I 10)) 385 (I 385)) 386 (I 386)) 449 (I 449)) 450 (I 450)) 513 w_85) 514 w_86) 577 (I 577)) 578 (I 578)) O (va_up (va_up (va_up (va_up R 13 (R 13)) 15 (R 15)) 17 w_87) 19 (R 19)) RO (LL ++ Y)) := hD
                refine lv_aload_n hx hb dX9_sheet_72 rfl (lv_at hl 0 rfl) ?_
                refine va_get (D := D) (ci := 8) (v := .ref (a 1)) (C := RX9) (T := TX9) (N := 11) hx hb hts hi9 hown hK hP 0 rfl rfl 0 (by decide) hw1 (fun _ h9 => h9) rfl dX9_sheet_73 ?_
                refine lv_iload_n hx hb dX9_sheet_76 rfl (lv_at hl 1 rfl) ?_
                refine va_aldq hx hb hK hP 1 4 rfl rfl (within_in4 c_1) dX9_sheet_77 ?_
                refine wtop_v (y := .ref (a 16)) (by rw [hj_71]; exact congrArg va_rf hRO2) ?_
                refine va_get (D := D) (ci := 5) (v := .int w_86) (C := RX6) (T := TX6) (N := 3) hx hb hts hi6 hown hK hP 16 rfl rfl 2 (by decide) hw2 (fun _ h9 => h9) rfl dX9_sheet_78 ?_
                exact wret_i hx hb hr hlocks (J, (va_up (va_up (va_up (va_up (va_up (va_up (va_up (va_up (va_up I 10 (I 10)) 385 (I 385)) 386 (I 386)) 449 (I 449)) 450 (I 450)) 513 w_85) 514 w_86) 577 (I 577)) 578 (I 578)), O, (va_up (va_up (va_up (va_up R 13 (R 13)) 15 (R 15)) 17 w_87) 19 (R 19)), RO, LL, Y) ⟨(I 10), (I 385), (I 386), (I 449), (I 450), w_85, w_86, (I 577), (I 578), (R 13), (R 15), w_87, (R 19), ⟨(hp_89.trans (sh_ok c_1 (Or.inr (Or.inr (Or.inl c_68))) c_69 c_70).symm), hM.2.2.2.2.1, hM.2.2.2.2.2.1, hi_88, hM.2.2.2.2.2.2.2.1⟩, rfl⟩ hP hD hS dX9_sheet_81
              · refine wtop_v (y := .ref (a 18)) (by rw [hj_71]; exact congrArg va_rf hRO3) ?_
                refine lv_iload_n hx hb dX9_sheet_67 rfl (lv_at hl 2 rfl) ?_
                refine lv_iload_n hx hb dX9_sheet_68 rfl (lv_at hl 3 rfl) ?_
                refine kM_v (As := [.int x1, .int x2]) (rest := []) (q0 := 18) ⟨hx, hb, hml, hown, hts⟩ (t_X6_begin18 l D cy a _ J (va_up (va_up (va_up (va_up (va_up (va_up (va_up (va_up (va_up I 10 (I 10)) 385 (I 385)) 386 (I 386)) 449 (I 449)) 450 (I 450)) 513 (I 513)) 514 (I 514)) 577 (I 577)) 578 (I 578)) O (va_up (va_up (va_up (va_up R 13 (R 13)) 15 (R 15)) 17 (R 17)) 19 (R 19)) RO LL Y x1 x2 (in17 c_69 c_70) ⟨hM.1, hM.2.1, hM.2.2.1, hM.2.2.2.1, hM.2.2.2.2.1, hM.2.2.2.2.2.1, hM.2.2.2.2.2.2.1, hM.2.2.2.2.2.2.2.1, hRO0, hRO1, hRO2, hRO3⟩ ) (cwV 2 hts gX9_sheet_X6_begin rfl rfl rfl (by decide +kernel) ⟨Nat.le_of_ble_eq_true rfl, Nat.le_of_ble_eq_true rfl⟩) hK hN hP hD hS hA rfl rfl rfl hl.1 rfl (Nat.le_of_ble_eq_true rfl) dX9_sheet_69 ⟨Nat.le_of_ble_eq_true rfl, Nat.le_of_ble_eq_true rfl⟩ (fun u H locs hw hP hD hS => ?_)
                obtain ⟨w_91, w_92, w_93, ⟨hi_94, hp_95⟩, rfl⟩ := hw
                have hP : va_P D vwCl (CT cy a J (va_up (va_up (va_up (va_up (va_up (va_up (va_up (va_up (va_up I 10 (I 10)) 385 (I 385)) 386 (I 386)) 449 (I 449)) 450 (I 450)) 513 (I 513)) 514 (I 514)) 577 w_91) 578 w_92) O (va_up (va_up (va_up (va_up R 13 (R 13)) 15 (R 15)) 17 (R 17)) 19 w_93) RO (LL ++ Y)) H := hP
                have hD : va_D A (CT cy a J (va_up (va_up (va_up (va_up (va_up (va_up (va_up (va_up (va_up I 10 (I 10)) 385 (I 385)) 386 (I 386)) 449 (I 449)) 450 (I 450)) 513 (I 513)) 514 (I 514)) 577 w_91) 578 w_92) O (va_up (va_up (va_up (va_up R 13 (R 13)) 15 (R 15)) 17 (R 17)) 19 w_93) RO (LL ++ Y)) := hD
                refine lv_aload_n hx hb dX9_sheet_72 rfl (lv_at hl 0 rfl) ?_
                refine va_get (D := D) (ci := 8) (v := .ref (a 1)) (C := RX9) (T := TX9) (N := 11) hx hb hts hi9 hown hK hP 0 rfl rfl 0 (by decide) hw1 (fun _ h9 => h9) rfl dX9_sheet_73 ?_
                refine lv_iload_n hx hb dX9_sheet_76 rfl (lv_at hl 1 rfl) ?_
                refine va_aldq hx hb hK hP 1 4 rfl rfl (within_in4 c_1) dX9_sheet_77 ?_
                refine wtop_v (y := .ref (a 18)) (by rw [hj_71]; exact congrArg va_rf hRO3) ?_
                refine va_get (D := D) (ci := 5) (v := .int w_92) (C := RX6) (T := TX6) (N := 3) hx hb hts hi6 hown hK hP 18 rfl rfl 2 (by decide) hw2 (fun _ h9 => h9) rfl dX9_sheet_78 ?_
                exact wret_i hx hb hr hlocks (J, (va_up (va_up (va_up (va_up (va_up (va_up (va_up (va_up (va_up I 10 (I 10)) 385 (I 385)) 386 (I 386)) 449 (I 449)) 450 (I 450)) 513 (I 513)) 514 (I 514)) 577 w_91) 578 w_92), O, (va_up (va_up (va_up (va_up R 13 (R 13)) 15 (R 15)) 17 (R 17)) 19 w_93), RO, LL, Y) ⟨(I 10), (I 385), (I 386), (I 449), (I 450), (I 513), (I 514), w_91, w_92, (R 13), (R 15), (R 17), w_93, ⟨(hp_95.trans (sh_ok c_1 (Or.inr (Or.inr (Or.inl c_68))) c_69 c_70).symm), hM.2.2.2.2.1, hM.2.2.2.2.2.1, hM.2.2.2.2.2.2.1, hi_94⟩, rfl⟩ hP hD hS dX9_sheet_81
            · refine lv_aload_n hx hb dX9_sheet_54 rfl (lv_at hl 0 rfl) ?_
              refine lv_ldc (v := (-100001)) hx hb hown hw0 dX9_sheet_55 ?_
              refine kM_i (As := [.int (-100001)]) (rest := []) (q0 := 0) ⟨hx, hb, hml, hown, hts⟩ (t_X9_finding l D cy a _ J (va_up (va_up (va_up (va_up (va_up (va_up (va_up (va_up (va_up I 10 (I 10)) 385 (I 385)) 386 (I 386)) 449 (I 449)) 450 (I 450)) 513 (I 513)) 514 (I 514)) 577 (I 577)) 578 (I 578)) O (va_up (va_up (va_up (va_up R 13 (R 13)) 15 (R 15)) 17 (R 17)) 19 (R 19)) RO LL Y ((-100001) : Int32)   ) (cwV 1 hts gX9_sheet_X9_finding rfl rfl rfl (by decide +kernel) ⟨Nat.le_of_ble_eq_true rfl, Nat.le_of_ble_eq_true rfl⟩) hK hN hP hD hS hA rfl rfl rfl hl.1 rfl (Nat.le_of_ble_eq_true rfl) dX9_sheet_57 ⟨Nat.le_of_ble_eq_true rfl, Nat.le_of_ble_eq_true rfl⟩ (fun r_96 u H locs hw hP hD hS => ?_)
              obtain ⟨w_97, rfl, rfl⟩ := hw
              have hP : va_P D vwCl (CT cy a J (va_up (va_up (va_up (va_up (va_up (va_up (va_up (va_up (va_up I 10 w_97) 385 (I 385)) 386 (I 386)) 449 (I 449)) 450 (I 450)) 513 (I 513)) 514 (I 514)) 577 (I 577)) 578 (I 578)) O (va_up (va_up (va_up (va_up R 13 (R 13)) 15 (R 15)) 17 (R 17)) 19 (R 19)) RO (LL ++ Y)) H := hP
              have hD : va_D A (CT cy a J (va_up (va_up (va_up (va_up (va_up (va_up (va_up (va_up (va_up I 10 w_97) 385 (I 385)) 386 (I 386)) 449 (I 449)) 450 (I 450)) 513 (I 513)) 514 (I 514)) 577 (I 577)) 578 (I 578)) O (va_up (va_up (va_up (va_up R 13 (R 13)) 15 (R 15)) 17 (R 17)) 19 (R 19)) RO (LL ++ Y)) := hD
              exact wret_i hx hb hr hlocks (J, (va_up (va_up (va_up (va_up (va_up (va_up (va_up (va_up (va_up I 10 w_97) 385 (I 385)) 386 (I 386)) 449 (I 449)) 450 (I 450)) 513 (I 513)) 514 (I 514)) 577 (I 577)) 578 (I 578)), O, (va_up (va_up (va_up (va_up R 13 (R 13)) 15 (R 15)) 17 (R 17)) 19 (R 19)), RO, LL, Y) ⟨w_97, (I 385), (I 386), (I 449), (I 450), (I 513), (I 514), (I 577), (I 578), (R 13), (R 15), (R 17), (R 19), ⟨(sh_big c_1 (Or.inr (Or.inr (Or.inl c_68))) c_69 c_70), hM.2.2.2.2.1, hM.2.2.2.2.2.1, hM.2.2.2.2.2.2.1, hM.2.2.2.2.2.2.2.1⟩, rfl⟩ hP hD hS dX9_sheet_60
          · refine lv_aload_n hx hb dX9_sheet_41 rfl (lv_at hl 0 rfl) ?_
            refine lv_ldc (v := (-100003)) hx hb hown hw3 dX9_sheet_42 ?_
            refine kM_i (As := [.int (-100003)]) (rest := []) (q0 := 0) ⟨hx, hb, hml, hown, hts⟩ (t_X9_finding l D cy a _ J (va_up (va_up (va_up (va_up (va_up (va_up (va_up (va_up (va_up I 10 (I 10)) 385 (I 385)) 386 (I 386)) 449 (I 449)) 450 (I 450)) 513 (I 513)) 514 (I 514)) 577 (I 577)) 578 (I 578)) O (va_up (va_up (va_up (va_up R 13 (R 13)) 15 (R 15)) 17 (R 17)) 19 (R 19)) RO LL Y ((-100003) : Int32)   ) (cwV 1 hts gX9_sheet_X9_finding rfl rfl rfl (by decide +kernel) ⟨Nat.le_of_ble_eq_true rfl, Nat.le_of_ble_eq_true rfl⟩) hK hN hP hD hS hA rfl rfl rfl hl.1 rfl (Nat.le_of_ble_eq_true rfl) dX9_sheet_44 ⟨Nat.le_of_ble_eq_true rfl, Nat.le_of_ble_eq_true rfl⟩ (fun r_98 u H locs hw hP hD hS => ?_)
            obtain ⟨w_99, rfl, rfl⟩ := hw
            have hP : va_P D vwCl (CT cy a J (va_up (va_up (va_up (va_up (va_up (va_up (va_up (va_up (va_up I 10 w_99) 385 (I 385)) 386 (I 386)) 449 (I 449)) 450 (I 450)) 513 (I 513)) 514 (I 514)) 577 (I 577)) 578 (I 578)) O (va_up (va_up (va_up (va_up R 13 (R 13)) 15 (R 15)) 17 (R 17)) 19 (R 19)) RO (LL ++ Y)) H := hP
            have hD : va_D A (CT cy a J (va_up (va_up (va_up (va_up (va_up (va_up (va_up (va_up (va_up I 10 w_99) 385 (I 385)) 386 (I 386)) 449 (I 449)) 450 (I 450)) 513 (I 513)) 514 (I 514)) 577 (I 577)) 578 (I 578)) O (va_up (va_up (va_up (va_up R 13 (R 13)) 15 (R 15)) 17 (R 17)) 19 (R 19)) RO (LL ++ Y)) := hD
            exact wret_i hx hb hr hlocks (J, (va_up (va_up (va_up (va_up (va_up (va_up (va_up (va_up (va_up I 10 w_99) 385 (I 385)) 386 (I 386)) 449 (I 449)) 450 (I 450)) 513 (I 513)) 514 (I 514)) 577 (I 577)) 578 (I 578)), O, (va_up (va_up (va_up (va_up R 13 (R 13)) 15 (R 15)) 17 (R 17)) 19 (R 19)), RO, LL, Y) ⟨w_99, (I 385), (I 386), (I 449), (I 450), (I 513), (I 514), (I 577), (I 578), (R 13), (R 15), (R 17), (R 19), ⟨(sh_sz c_1 (Or.inr (Or.inr (Or.inl c_68))) c_69), hM.2.2.2.2.1, hM.2.2.2.2.2.1, hM.2.2.2.2.2.2.1, hM.2.2.2.2.2.2.2.1⟩, rfl⟩ hP hD hS dX9_sheet_47
        · refine lv_iload_n hx hb dX9_sheet_24 rfl (lv_at hl 2 rfl) ?_
          refine lv_bipush (v := 32) hx hb dX9_sheet_25 (by decide) ?_
          refine lv_icmp_eq (tgt := 37) hx hb dX9_sheet_27 (by decide) (fun c_100 => ?_) (fun c_100 => ?_)
          · refine lv_iload_n hx hb dX9_sheet_37 rfl (lv_at hl 3 rfl) ?_
            refine lv_if_ge (tgt := 48) hx hb dX9_sheet_38 (by decide) (fun c_101 => ?_) (fun c_101 => ?_)
            · refine lv_iload_n hx hb dX9_sheet_48 rfl (lv_at hl 3 rfl) ?_
              refine lv_bipush (v := 16) hx hb dX9_sheet_49 (by decide) ?_
              refine lv_icmp_le (tgt := 61) hx hb dX9_sheet_51 (by decide) (fun c_102 => ?_) (fun c_102 => ?_)
              · refine lv_aload_n hx hb dX9_sheet_61 rfl (lv_at hl 0 rfl) ?_
                refine va_get (D := D) (ci := 8) (v := .ref (a 1)) (C := RX9) (T := TX9) (N := 11) hx hb hts hi9 hown hK hP 0 rfl rfl 0 (by decide) hw1 (fun _ h9 => h9) rfl dX9_sheet_62 ?_
                refine lv_iload_n hx hb dX9_sheet_65 rfl (lv_at hl 1 rfl) ?_
                refine va_aldq hx hb hK hP 1 4 rfl rfl (within_in4 c_1) dX9_sheet_66 ?_
                rcases in4 (within_in4 c_1) with hj_103 | hj_103 | hj_103 | hj_103
                · refine wtop_v (y := .ref (a 12)) (by rw [hj_103]; exact congrArg va_rf hRO0) ?_
                  refine lv_iload_n hx hb dX9_sheet_67 rfl (lv_at hl 2 rfl) ?_
                  refine lv_iload_n hx hb dX9_sheet_68 rfl (lv_at hl 3 rfl) ?_
                  refine kM_v (As := [.int x1, .int x2]) (rest := []) (q0 := 12) ⟨hx, hb, hml, hown, hts⟩ (t_X6_begin12 l D cy a _ J (va_up (va_up (va_up (va_up (va_up (va_up (va_up (va_up (va_up I 10 (I 10)) 385 (I 385)) 386 (I 386)) 449 (I 449)) 450 (I 450)) 513 (I 513)) 514 (I 514)) 577 (I 577)) 578 (I 578)) O (va_up (va_up (va_up (va_up R 13 (R 13)) 15 (R 15)) 17 (R 17)) 19 (R 19)) RO LL Y x1 x2 (in17 c_101 c_102) ⟨hM.1, hM.2.1, hM.2.2.1, hM.2.2.2.1, hM.2.2.2.2.1, hM.2.2.2.2.2.1, hM.2.2.2.2.2.2.1, hM.2.2.2.2.2.2.2.1, hRO0, hRO1, hRO2, hRO3⟩ ) (cwV 2 hts gX9_sheet_X6_begin rfl rfl rfl (by decide +kernel) ⟨Nat.le_of_ble_eq_true rfl, Nat.le_of_ble_eq_true rfl⟩) hK hN hP hD hS hA rfl rfl rfl hl.1 rfl (Nat.le_of_ble_eq_true rfl) dX9_sheet_69 ⟨Nat.le_of_ble_eq_true rfl, Nat.le_of_ble_eq_true rfl⟩ (fun u H locs hw hP hD hS => ?_)
                  obtain ⟨w_105, w_106, w_107, ⟨hi_108, hp_109⟩, rfl⟩ := hw
                  have hP : va_P D vwCl (CT cy a J (va_up (va_up (va_up (va_up (va_up (va_up (va_up (va_up (va_up I 10 (I 10)) 385 w_105) 386 w_106) 449 (I 449)) 450 (I 450)) 513 (I 513)) 514 (I 514)) 577 (I 577)) 578 (I 578)) O (va_up (va_up (va_up (va_up R 13 w_107) 15 (R 15)) 17 (R 17)) 19 (R 19)) RO (LL ++ Y)) H := hP
                  have hD : va_D A (CT cy a J (va_up (va_up (va_up (va_up (va_up (va_up (va_up (va_up (va_up I 10 (I 10)) 385 w_105) 386 w_106) 449 (I 449)) 450 (I 450)) 513 (I 513)) 514 (I 514)) 577 (I 577)) 578 (I 578)) O (va_up (va_up (va_up (va_up R 13 w_107) 15 (R 15)) 17 (R 17)) 19 (R 19)) RO (LL ++ Y)) := hD
                  refine lv_aload_n hx hb dX9_sheet_72 rfl (lv_at hl 0 rfl) ?_
                  refine va_get (D := D) (ci := 8) (v := .ref (a 1)) (C := RX9) (T := TX9) (N := 11) hx hb hts hi9 hown hK hP 0 rfl rfl 0 (by decide) hw1 (fun _ h9 => h9) rfl dX9_sheet_73 ?_
                  refine lv_iload_n hx hb dX9_sheet_76 rfl (lv_at hl 1 rfl) ?_
                  refine va_aldq hx hb hK hP 1 4 rfl rfl (within_in4 c_1) dX9_sheet_77 ?_
                  refine wtop_v (y := .ref (a 12)) (by rw [hj_103]; exact congrArg va_rf hRO0) ?_
                  refine va_get (D := D) (ci := 5) (v := .int w_106) (C := RX6) (T := TX6) (N := 3) hx hb hts hi6 hown hK hP 12 rfl rfl 2 (by decide) hw2 (fun _ h9 => h9) rfl dX9_sheet_78 ?_
                  exact wret_i hx hb hr hlocks (J, (va_up (va_up (va_up (va_up (va_up (va_up (va_up (va_up (va_up I 10 (I 10)) 385 w_105) 386 w_106) 449 (I 449)) 450 (I 450)) 513 (I 513)) 514 (I 514)) 577 (I 577)) 578 (I 578)), O, (va_up (va_up (va_up (va_up R 13 w_107) 15 (R 15)) 17 (R 17)) 19 (R 19)), RO, LL, Y) ⟨(I 10), w_105, w_106, (I 449), (I 450), (I 513), (I 514), (I 577), (I 578), w_107, (R 15), (R 17), (R 19), ⟨(hp_109.trans (sh_ok c_1 (Or.inr (Or.inr (Or.inr c_100))) c_101 c_102).symm), hi_108, hM.2.2.2.2.2.1, hM.2.2.2.2.2.2.1, hM.2.2.2.2.2.2.2.1⟩, rfl⟩ hP hD hS dX9_sheet_81
                · refine wtop_v (y := .ref (a 14)) (by rw [hj_103]; exact congrArg va_rf hRO1) ?_
                  refine lv_iload_n hx hb dX9_sheet_67 rfl (lv_at hl 2 rfl) ?_
                  refine lv_iload_n hx hb dX9_sheet_68 rfl (lv_at hl 3 rfl) ?_
                  refine kM_v (As := [.int x1, .int x2]) (rest := []) (q0 := 14) ⟨hx, hb, hml, hown, hts⟩ (t_X6_begin14 l D cy a _ J (va_up (va_up (va_up (va_up (va_up (va_up (va_up (va_up (va_up I 10 (I 10)) 385 (I 385)) 386 (I 386)) 449 (I 449)) 450 (I 450)) 513 (I 513)) 514 (I 514)) 577 (I 577)) 578 (I 578)) O (va_up (va_up (va_up (va_up R 13 (R 13)) 15 (R 15)) 17 (R 17)) 19 (R 19)) RO LL Y x1 x2 (in17 c_101 c_102) ⟨hM.1, hM.2.1, hM.2.2.1, hM.2.2.2.1, hM.2.2.2.2.1, hM.2.2.2.2.2.1, hM.2.2.2.2.2.2.1, hM.2.2.2.2.2.2.2.1, hRO0, hRO1, hRO2, hRO3⟩ ) (cwV 2 hts gX9_sheet_X6_begin rfl rfl rfl (by decide +kernel) ⟨Nat.le_of_ble_eq_true rfl, Nat.le_of_ble_eq_true rfl⟩) hK hN hP hD hS hA rfl rfl rfl hl.1 rfl (Nat.le_of_ble_eq_true rfl) dX9_sheet_69 ⟨Nat.le_of_ble_eq_true rfl, Nat.le_of_ble_eq_true rfl⟩ (fun u H locs hw hP hD hS => ?_)
                  obtain ⟨w_111, w_112, w_113, ⟨hi_114, hp_115⟩, rfl⟩ := hw
                  have hP : va_P D vwCl (CT cy a J (va_up (va_up (va_up (va_up (va_up (va_up (va_up (va_up (va_up I 10 (I 10)) 385 (I 385)) 386 (I 386)) 449 w_111) 450 w_112) 513 (I 513)) 514 (I 514)) 577 (I 577)) 578 (I 578)) O (va_up (va_up (va_up (va_up R 13 (R 13)) 15 w_113) 17 (R 17)) 19 (R 19)) RO (LL ++ Y)) H := hP
                  have hD : va_D A (CT cy a J (va_up (va_up (va_up (va_up (va_up (va_up (va_up (va_up (va_up I 10 (I 10)) 385 (I 385)) 386 (I 386)) 449 w_111) 450 w_112) 513 (I 513)) 514 (I 514)) 577 (I 577)) 578 (I 578)) O (va_up (va_up (va_up (va_up R 13 (R 13)) 15 w_113) 17 (R 17)) 19 (R 19)) RO (LL ++ Y)) := hD
                  refine lv_aload_n hx hb dX9_sheet_72 rfl (lv_at hl 0 rfl) ?_
                  refine va_get (D := D) (ci := 8) (v := .ref (a 1)) (C := RX9) (T := TX9) (N := 11) hx hb hts hi9 hown hK hP 0 rfl rfl 0 (by decide) hw1 (fun _ h9 => h9) rfl dX9_sheet_73 ?_
                  refine lv_iload_n hx hb dX9_sheet_76 rfl (lv_at hl 1 rfl) ?_
                  refine va_aldq hx hb hK hP 1 4 rfl rfl (within_in4 c_1) dX9_sheet_77 ?_
                  refine wtop_v (y := .ref (a 14)) (by rw [hj_103]; exact congrArg va_rf hRO1) ?_
                  refine va_get (D := D) (ci := 5) (v := .int w_112) (C := RX6) (T := TX6) (N := 3) hx hb hts hi6 hown hK hP 14 rfl rfl 2 (by decide) hw2 (fun _ h9 => h9) rfl dX9_sheet_78 ?_
                  exact wret_i hx hb hr hlocks (J, (va_up (va_up (va_up (va_up (va_up (va_up (va_up (va_up (va_up I 10 (I 10)) 385 (I 385)) 386 (I 386)) 449 w_111) 450 w_112) 513 (I 513)) 514 (I 514)) 577 (I 577)) 578 (I 578)), O, (va_up (va_up (va_up (va_up R 13 (R 13)) 15 w_113) 17 (R 17)) 19 (R 19)), RO, LL, Y) ⟨(I 10), (I 385), (I 386), w_111, w_112, (I 513), (I 514), (I 577), (I 578), (R 13), w_113, (R 17), (R 19), ⟨(hp_115.trans (sh_ok c_1 (Or.inr (Or.inr (Or.inr c_100))) c_101 c_102).symm), hM.2.2.2.2.1, hi_114, hM.2.2.2.2.2.2.1, hM.2.2.2.2.2.2.2.1⟩, rfl⟩ hP hD hS dX9_sheet_81
                · refine wtop_v (y := .ref (a 16)) (by rw [hj_103]; exact congrArg va_rf hRO2) ?_
                  refine lv_iload_n hx hb dX9_sheet_67 rfl (lv_at hl 2 rfl) ?_
                  refine lv_iload_n hx hb dX9_sheet_68 rfl (lv_at hl 3 rfl) ?_
                  refine kM_v (As := [.int x1, .int x2]) (rest := []) (q0 := 16) ⟨hx, hb, hml, hown, hts⟩ (t_X6_begin16 l D cy a _ J (va_up (va_up (va_up (va_up (va_up (va_up (va_up (va_up (va_up I 10 (I 10)) 385 (I 385)) 386 (I 386)) 449 (I 449)) 450 (I 450)) 513 (I 513)) 514 (I 514)) 577 (I 577)) 578 (I 578)) O (va_up (va_up (va_up (va_up R 13 (R 13)) 15 (R 15)) 17 (R 17)) 19 (R 19)) RO LL Y x1 x2 (in17 c_101 c_102) ⟨hM.1, hM.2.1, hM.2.2.1, hM.2.2.2.1, hM.2.2.2.2.1, hM.2.2.2.2.2.1, hM.2.2.2.2.2.2.1, hM.2.2.2.2.2.2.2.1, hRO0, hRO1, hRO2, hRO3⟩ ) (cwV 2 hts gX9_sheet_X6_begin rfl rfl rfl (by decide +kernel) ⟨Nat.le_of_ble_eq_true rfl, Nat.le_of_ble_eq_true rfl⟩) hK hN hP hD hS hA rfl rfl rfl hl.1 rfl (Nat.le_of_ble_eq_true rfl) dX9_sheet_69 ⟨Nat.le_of_ble_eq_true rfl, Nat.le_of_ble_eq_true rfl⟩ (fun u H locs hw hP hD hS => ?_)
                  obtain ⟨w_117, w_118, w_119, ⟨hi_120, hp_121⟩, rfl⟩ := hw
                  have hP : va_P D vwCl (CT cy a J (va_up (va_up (va_up (va_up (va_up (va_up (va_up (va_up (va_up I 10 (I 10)) 385 (I 385)) 386 (I 386)) 449 (I 449)) 450 (I 450)) 513 w_117) 514 w_118) 577 (I 577)) 578 (I 578)) O (va_up (va_up (va_up (va_up R 13 (R 13)) 15 (R 15)) 17 w_119) 19 (R 19)) RO (LL ++ Y)) H := hP
                  have hD : va_D A (CT cy a J (va_up (va_up (va_up (va_up (va_up (va_up (va_up (va_up (va_up I 10 (I 10)) 385 (I 385)) 386 (I 386)) 449 (I 449)) 450 (I 450)) 513 w_117) 514 w_118) 577 (I 577)) 578 (I 578)) O (va_up (va_up (va_up (va_up R 13 (R 13)) 15 (R 15)) 17 w_119) 19 (R 19)) RO (LL ++ Y)) := hD
                  refine lv_aload_n hx hb dX9_sheet_72 rfl (lv_at hl 0 rfl) ?_
                  refine va_get (D := D) (ci := 8) (v := .ref (a 1)) (C := RX9) (T := TX9) (N := 11) hx hb hts hi9 hown hK hP 0 rfl rfl 0 (by decide) hw1 (fun _ h9 => h9) rfl dX9_sheet_73 ?_
                  refine lv_iload_n hx hb dX9_sheet_76 rfl (lv_at hl 1 rfl) ?_
                  refine va_aldq hx hb hK hP 1 4 rfl rfl (within_in4 c_1) dX9_sheet_77 ?_
                  refine wtop_v (y := .ref (a 16)) (by rw [hj_103]; exact congrArg va_rf hRO2) ?_
                  refine va_get (D := D) (ci := 5) (v := .int w_118) (C := RX6) (T := TX6) (N := 3) hx hb hts hi6 hown hK hP 16 rfl rfl 2 (by decide) hw2 (fun _ h9 => h9) rfl dX9_sheet_78 ?_
                  exact wret_i hx hb hr hlocks (J, (va_up (va_up (va_up (va_up (va_up (va_up (va_up (va_up (va_up I 10 (I 10)) 385 (I 385)) 386 (I 386)) 449 (I 449)) 450 (I 450)) 513 w_117) 514 w_118) 577 (I 577)) 578 (I 578)), O, (va_up (va_up (va_up (va_up R 13 (R 13)) 15 (R 15)) 17 w_119) 19 (R 19)), RO, LL, Y) ⟨(I 10), (I 385), (I 386), (I 449), (I 450), w_117, w_118, (I 577), (I 578), (R 13), (R 15), w_119, (R 19), ⟨(hp_121.trans (sh_ok c_1 (Or.inr (Or.inr (Or.inr c_100))) c_101 c_102).symm), hM.2.2.2.2.1, hM.2.2.2.2.2.1, hi_120, hM.2.2.2.2.2.2.2.1⟩, rfl⟩ hP hD hS dX9_sheet_81
                · refine wtop_v (y := .ref (a 18)) (by rw [hj_103]; exact congrArg va_rf hRO3) ?_
                  refine lv_iload_n hx hb dX9_sheet_67 rfl (lv_at hl 2 rfl) ?_
                  refine lv_iload_n hx hb dX9_sheet_68 rfl (lv_at hl 3 rfl) ?_
                  refine kM_v (As := [.int x1, .int x2]) (rest := []) (q0 := 18) ⟨hx, hb, hml, hown, hts⟩ (t_X6_begin18 l D cy a _ J (va_up (va_up (va_up (va_up (va_up (va_up (va_up (va_up (va_up I 10 (I 10)) 385 (I 385)) 386 (I 386)) 449 (I 449)) 450 (I 450)) 513 (I 513)) 514 (I 514)) 577 (I 577)) 578 (I 578)) O (va_up (va_up (va_up (va_up R 13 (R 13)) 15 (R 15)) 17 (R 17)) 19 (R 19)) RO LL Y x1 x2 (in17 c_101 c_102) ⟨hM.1, hM.2.1, hM.2.2.1, hM.2.2.2.1, hM.2.2.2.2.1, hM.2.2.2.2.2.1, hM.2.2.2.2.2.2.1, hM.2.2.2.2.2.2.2.1, hRO0, hRO1, hRO2, hRO3⟩ ) (cwV 2 hts gX9_sheet_X6_begin rfl rfl rfl (by decide +kernel) ⟨Nat.le_of_ble_eq_true rfl, Nat.le_of_ble_eq_true rfl⟩) hK hN hP hD hS hA rfl rfl rfl hl.1 rfl (Nat.le_of_ble_eq_true rfl) dX9_sheet_69 ⟨Nat.le_of_ble_eq_true rfl, Nat.le_of_ble_eq_true rfl⟩ (fun u H locs hw hP hD hS => ?_)
                  obtain ⟨w_123, w_124, w_125, ⟨hi_126, hp_127⟩, rfl⟩ := hw
                  have hP : va_P D vwCl (CT cy a J (va_up (va_up (va_up (va_up (va_up (va_up (va_up (va_up (va_up I 10 (I 10)) 385 (I 385)) 386 (I 386)) 449 (I 449)) 450 (I 450)) 513 (I 513)) 514 (I 514)) 577 w_123) 578 w_124) O (va_up (va_up (va_up (va_up R 13 (R 13)) 15 (R 15)) 17 (R 17)) 19 w_125) RO (LL ++ Y)) H := hP
                  have hD : va_D A (CT cy a J (va_up (va_up (va_up (va_up (va_up (va_up (va_up (va_up (va_up I 10 (I 10)) 385 (I 385)) 386 (I 386)) 449 (I 449)) 450 (I 450)) 513 (I 513)) 514 (I 514)) 577 w_123) 578 w_124) O (va_up (va_up (va_up (va_up R 13 (R 13)) 15 (R 15)) 17 (R 17)) 19 w_125) RO (LL ++ Y)) := hD
                  refine lv_aload_n hx hb dX9_sheet_72 rfl (lv_at hl 0 rfl) ?_
                  refine va_get (D := D) (ci := 8) (v := .ref (a 1)) (C := RX9) (T := TX9) (N := 11) hx hb hts hi9 hown hK hP 0 rfl rfl 0 (by decide) hw1 (fun _ h9 => h9) rfl dX9_sheet_73 ?_
                  refine lv_iload_n hx hb dX9_sheet_76 rfl (lv_at hl 1 rfl) ?_
                  refine va_aldq hx hb hK hP 1 4 rfl rfl (within_in4 c_1) dX9_sheet_77 ?_
                  refine wtop_v (y := .ref (a 18)) (by rw [hj_103]; exact congrArg va_rf hRO3) ?_
                  refine va_get (D := D) (ci := 5) (v := .int w_124) (C := RX6) (T := TX6) (N := 3) hx hb hts hi6 hown hK hP 18 rfl rfl 2 (by decide) hw2 (fun _ h9 => h9) rfl dX9_sheet_78 ?_
                  exact wret_i hx hb hr hlocks (J, (va_up (va_up (va_up (va_up (va_up (va_up (va_up (va_up (va_up I 10 (I 10)) 385 (I 385)) 386 (I 386)) 449 (I 449)) 450 (I 450)) 513 (I 513)) 514 (I 514)) 577 w_123) 578 w_124), O, (va_up (va_up (va_up (va_up R 13 (R 13)) 15 (R 15)) 17 (R 17)) 19 w_125), RO, LL, Y) ⟨(I 10), (I 385), (I 386), (I 449), (I 450), (I 513), (I 514), w_123, w_124, (R 13), (R 15), (R 17), w_125, ⟨(hp_127.trans (sh_ok c_1 (Or.inr (Or.inr (Or.inr c_100))) c_101 c_102).symm), hM.2.2.2.2.1, hM.2.2.2.2.2.1, hM.2.2.2.2.2.2.1, hi_126⟩, rfl⟩ hP hD hS dX9_sheet_81
              · refine lv_aload_n hx hb dX9_sheet_54 rfl (lv_at hl 0 rfl) ?_
                refine lv_ldc (v := (-100001)) hx hb hown hw0 dX9_sheet_55 ?_
                refine kM_i (As := [.int (-100001)]) (rest := []) (q0 := 0) ⟨hx, hb, hml, hown, hts⟩ (t_X9_finding l D cy a _ J (va_up (va_up (va_up (va_up (va_up (va_up (va_up (va_up (va_up I 10 (I 10)) 385 (I 385)) 386 (I 386)) 449 (I 449)) 450 (I 450)) 513 (I 513)) 514 (I 514)) 577 (I 577)) 578 (I 578)) O (va_up (va_up (va_up (va_up R 13 (R 13)) 15 (R 15)) 17 (R 17)) 19 (R 19)) RO LL Y ((-100001) : Int32)   ) (cwV 1 hts gX9_sheet_X9_finding rfl rfl rfl (by decide +kernel) ⟨Nat.le_of_ble_eq_true rfl, Nat.le_of_ble_eq_true rfl⟩) hK hN hP hD hS hA rfl rfl rfl hl.1 rfl (Nat.le_of_ble_eq_true rfl) dX9_sheet_57 ⟨Nat.le_of_ble_eq_true rfl, Nat.le_of_ble_eq_true rfl⟩ (fun r_128 u H locs hw hP hD hS => ?_)
                obtain ⟨w_129, rfl, rfl⟩ := hw
                have hP : va_P D vwCl (CT cy a J (va_up (va_up (va_up (va_up (va_up (va_up (va_up (va_up (va_up I 10 w_129) 385 (I 385)) 386 (I 386)) 449 (I 449)) 450 (I 450)) 513 (I 513)) 514 (I 514)) 577 (I 577)) 578 (I 578)) O (va_up (va_up (va_up (va_up R 13 (R 13)) 15 (R 15)) 17 (R 17)) 19 (R 19)) RO (LL ++ Y)) H := hP
                have hD : va_D A (CT cy a J (va_up (va_up (va_up (va_up (va_up (va_up (va_up (va_up (va_up I 10 w_129) 385 (I 385)) 386 (I 386)) 449 (I 449)) 450 (I 450)) 513 (I 513)) 514 (I 514)) 577 (I 577)) 578 (I 578)) O (va_up (va_up (va_up (va_up R 13 (R 13)) 15 (R 15)) 17 (R 17)) 19 (R 19)) RO (LL ++ Y)) := hD
                exact wret_i hx hb hr hlocks (J, (va_up (va_up (va_up (va_up (va_up (va_up (va_up (va_up (va_up I 10 w_129) 385 (I 385)) 386 (I 386)) 449 (I 449)) 450 (I 450)) 513 (I 513)) 514 (I 514)) 577 (I 577)) 578 (I 578)), O, (va_up (va_up (va_up (va_up R 13 (R 13)) 15 (R 15)) 17 (R 17)) 19 (R 19)), RO, LL, Y) ⟨w_129, (I 385), (I 386), (I 449), (I 450), (I 513), (I 514), (I 577), (I 578), (R 13), (R 15), (R 17), (R 19), ⟨(sh_big c_1 (Or.inr (Or.inr (Or.inr c_100))) c_101 c_102), hM.2.2.2.2.1, hM.2.2.2.2.2.1, hM.2.2.2.2.2.2.1, hM.2.2.2.2.2.2.2.1⟩, rfl⟩ hP hD hS dX9_sheet_60
            · refine lv_aload_n hx hb dX9_sheet_41 rfl (lv_at hl 0 rfl) ?_
              refine lv_ldc (v := (-100003)) hx hb hown hw3 dX9_sheet_42 ?_
              refine kM_i (As := [.int (-100003)]) (rest := []) (q0 := 0) ⟨hx, hb, hml, hown, hts⟩ (t_X9_finding l D cy a _ J (va_up (va_up (va_up (va_up (va_up (va_up (va_up (va_up (va_up I 10 (I 10)) 385 (I 385)) 386 (I 386)) 449 (I 449)) 450 (I 450)) 513 (I 513)) 514 (I 514)) 577 (I 577)) 578 (I 578)) O (va_up (va_up (va_up (va_up R 13 (R 13)) 15 (R 15)) 17 (R 17)) 19 (R 19)) RO LL Y ((-100003) : Int32)   ) (cwV 1 hts gX9_sheet_X9_finding rfl rfl rfl (by decide +kernel) ⟨Nat.le_of_ble_eq_true rfl, Nat.le_of_ble_eq_true rfl⟩) hK hN hP hD hS hA rfl rfl rfl hl.1 rfl (Nat.le_of_ble_eq_true rfl) dX9_sheet_44 ⟨Nat.le_of_ble_eq_true rfl, Nat.le_of_ble_eq_true rfl⟩ (fun r_130 u H locs hw hP hD hS => ?_)
              obtain ⟨w_131, rfl, rfl⟩ := hw
              have hP : va_P D vwCl (CT cy a J (va_up (va_up (va_up (va_up (va_up (va_up (va_up (va_up (va_up I 10 w_131) 385 (I 385)) 386 (I 386)) 449 (I 449)) 450 (I 450)) 513 (I 513)) 514 (I 514)) 577 (I 577)) 578 (I 578)) O (va_up (va_up (va_up (va_up R 13 (R 13)) 15 (R 15)) 17 (R 17)) 19 (R 19)) RO (LL ++ Y)) H := hP
              have hD : va_D A (CT cy a J (va_up (va_up (va_up (va_up (va_up (va_up (va_up (va_up (va_up I 10 w_131) 385 (I 385)) 386 (I 386)) 449 (I 449)) 450 (I 450)) 513 (I 513)) 514 (I 514)) 577 (I 577)) 578 (I 578)) O (va_up (va_up (va_up (va_up R 13 (R 13)) 15 (R 15)) 17 (R 17)) 19 (R 19)) RO (LL ++ Y)) := hD
              exact wret_i hx hb hr hlocks (J, (va_up (va_up (va_up (va_up (va_up (va_up (va_up (va_up (va_up I 10 w_131) 385 (I 385)) 386 (I 386)) 449 (I 449)) 450 (I 450)) 513 (I 513)) 514 (I 514)) 577 (I 577)) 578 (I 578)), O, (va_up (va_up (va_up (va_up R 13 (R 13)) 15 (R 15)) 17 (R 17)) 19 (R 19)), RO, LL, Y) ⟨w_131, (I 385), (I 386), (I 449), (I 450), (I 513), (I 514), (I 577), (I 578), (R 13), (R 15), (R 17), (R 19), ⟨(sh_sz c_1 (Or.inr (Or.inr (Or.inr c_100))) c_101), hM.2.2.2.2.1, hM.2.2.2.2.2.1, hM.2.2.2.2.2.2.1, hM.2.2.2.2.2.2.2.1⟩, rfl⟩ hP hD hS dX9_sheet_47
          · refine lv_aload_n hx hb dX9_sheet_30 rfl (lv_at hl 0 rfl) ?_
            refine lv_ldc (v := (-100001)) hx hb hown hw0 dX9_sheet_31 ?_
            refine kM_i (As := [.int (-100001)]) (rest := []) (q0 := 0) ⟨hx, hb, hml, hown, hts⟩ (t_X9_finding l D cy a _ J (va_up (va_up (va_up (va_up (va_up (va_up (va_up (va_up (va_up I 10 (I 10)) 385 (I 385)) 386 (I 386)) 449 (I 449)) 450 (I 450)) 513 (I 513)) 514 (I 514)) 577 (I 577)) 578 (I 578)) O (va_up (va_up (va_up (va_up R 13 (R 13)) 15 (R 15)) 17 (R 17)) 19 (R 19)) RO LL Y ((-100001) : Int32)   ) (cwV 1 hts gX9_sheet_X9_finding rfl rfl rfl (by decide +kernel) ⟨Nat.le_of_ble_eq_true rfl, Nat.le_of_ble_eq_true rfl⟩) hK hN hP hD hS hA rfl rfl rfl hl.1 rfl (Nat.le_of_ble_eq_true rfl) dX9_sheet_33 ⟨Nat.le_of_ble_eq_true rfl, Nat.le_of_ble_eq_true rfl⟩ (fun r_132 u H locs hw hP hD hS => ?_)
            obtain ⟨w_133, rfl, rfl⟩ := hw
            have hP : va_P D vwCl (CT cy a J (va_up (va_up (va_up (va_up (va_up (va_up (va_up (va_up (va_up I 10 w_133) 385 (I 385)) 386 (I 386)) 449 (I 449)) 450 (I 450)) 513 (I 513)) 514 (I 514)) 577 (I 577)) 578 (I 578)) O (va_up (va_up (va_up (va_up R 13 (R 13)) 15 (R 15)) 17 (R 17)) 19 (R 19)) RO (LL ++ Y)) H := hP
            have hD : va_D A (CT cy a J (va_up (va_up (va_up (va_up (va_up (va_up (va_up (va_up (va_up I 10 w_133) 385 (I 385)) 386 (I 386)) 449 (I 449)) 450 (I 450)) 513 (I 513)) 514 (I 514)) 577 (I 577)) 578 (I 578)) O (va_up (va_up (va_up (va_up R 13 (R 13)) 15 (R 15)) 17 (R 17)) 19 (R 19)) RO (LL ++ Y)) := hD
            exact wret_i hx hb hr hlocks (J, (va_up (va_up (va_up (va_up (va_up (va_up (va_up (va_up (va_up I 10 w_133) 385 (I 385)) 386 (I 386)) 449 (I 449)) 450 (I 450)) 513 (I 513)) 514 (I 514)) 577 (I 577)) 578 (I 578)), O, (va_up (va_up (va_up (va_up R 13 (R 13)) 15 (R 15)) 17 (R 17)) 19 (R 19)), RO, LL, Y) ⟨w_133, (I 385), (I 386), (I 449), (I 450), (I 513), (I 514), (I 577), (I 578), (R 13), (R 15), (R 17), (R 19), ⟨(sh_b2 c_4 c_36 c_68 c_100), hM.2.2.2.2.1, hM.2.2.2.2.2.1, hM.2.2.2.2.2.2.1, hM.2.2.2.2.2.2.2.1⟩, rfl⟩ hP hD hS dX9_sheet_36
theorem dX9_put_0 : decode cX9_put 0 = .ok (.aload_n 0, 1) := by decide +kernel
theorem dX9_put_1 : decode cX9_put 1 = .ok (.iload_n 1, 1) := by decide +kernel
set_option maxRecDepth 20000 in
theorem ggX9_put_X9_isSheet : GoodIn wsX9_put wsX9_isSheet := goodIn_r _ [8, 2, 30, 31, 32, 33, 34, 35, 36, 37, 38, 39, 40] (by decide +kernel) (by decide +kernel)
set_option maxRecDepth 20000 in
theorem gX9_put_X9_isSheet : GoodIn wsX9_put (wsV RX9 279 RX9 yX9_isSheet wsX9_isSheet) := goodIn_app (goodIn_of _ (by decide +kernel)) ggX9_put_X9_isSheet
theorem dX9_put_2 : decode cX9_put 2 = .ok (.invokevirtual 279, 3) := by decide +kernel
theorem dX9_put_5 : decode cX9_put 5 = .ok (.ifCond .ne 10, 3) := by decide +kernel
theorem dX9_put_15 : decode cX9_put 15 = .ok (.aload_n 0, 1) := by decide +kernel
theorem dX9_put_16 : decode cX9_put 16 = .ok (.getfield 9, 3) := by decide +kernel
theorem dX9_put_19 : decode cX9_put 19 = .ok (.iload_n 1, 1) := by decide +kernel
theorem dX9_put_20 : decode cX9_put 20 = .ok (.aaload, 1) := by decide +kernel
theorem dX9_put_21 : decode cX9_put 21 = .ok (.astore 4, 2) := by decide +kernel
theorem dX9_put_23 : decode cX9_put 23 = .ok (.aload 4, 2) := by decide +kernel
set_option maxRecDepth 20000 in
theorem ggX9_put_X6_isMissing : GoodIn wsX9_put wsX6_isMissing := goodIn_r _ [18, 19, 41, 42, 43] (by decide +kernel) (by decide +kernel)
set_option maxRecDepth 20000 in
theorem gX9_put_X6_isMissing : GoodIn wsX9_put (wsV RX9 289 RX6 yX6_isMissing wsX6_isMissing) := goodIn_app (goodIn_of _ (by decide +kernel)) ggX9_put_X6_isMissing
theorem dX9_put_25 : decode cX9_put 25 = .ok (.invokevirtual 289, 3) := by decide +kernel
theorem dX9_put_28 : decode cX9_put 28 = .ok (.ifCond .eq 11, 3) := by decide +kernel
theorem dX9_put_39 : decode cX9_put 39 = .ok (.aload 4, 2) := by decide +kernel
theorem dX9_put_41 : decode cX9_put 41 = .ok (.iload_n 2, 1) := by decide +kernel
theorem dX9_put_42 : decode cX9_put 42 = .ok (.iconst 1, 1) := by decide +kernel
set_option maxRecDepth 20000 in
theorem ggX9_put_X6_hasRange : GoodIn wsX9_put wsX6_hasRange := goodIn_r _ [23, 24, 41, 42, 43] (by decide +kernel) (by decide +kernel)
set_option maxRecDepth 20000 in
theorem gX9_put_X6_hasRange : GoodIn wsX9_put (wsV RX9 293 RX6 yX6_hasRange wsX6_hasRange) := goodIn_app (goodIn_of _ (by decide +kernel)) ggX9_put_X6_hasRange
theorem dX9_put_43 : decode cX9_put 43 = .ok (.invokevirtual 293, 3) := by decide +kernel
theorem dX9_put_46 : decode cX9_put 46 = .ok (.ifCond .ne 10, 3) := by decide +kernel
theorem dX9_put_56 : decode cX9_put 56 = .ok (.aload 4, 2) := by decide +kernel
theorem dX9_put_58 : decode cX9_put 58 = .ok (.iload_n 2, 1) := by decide +kernel
theorem dX9_put_59 : decode cX9_put 59 = .ok (.iload_n 3, 1) := by decide +kernel
set_option maxRecDepth 20000 in
theorem ggX9_put_X6_write : GoodIn wsX9_put wsX6_write := goodIn_r _ [28, 29, 19, 41, 42, 43] (by decide +kernel) (by decide +kernel)
set_option maxRecDepth 20000 in
theorem gX9_put_X6_write : GoodIn wsX9_put (wsV RX9 296 RX6 yX6_write wsX6_write) := goodIn_app (goodIn_of _ (by decide +kernel)) ggX9_put_X6_write
theorem dX9_put_60 : decode cX9_put 60 = .ok (.invokevirtual 296, 3) := by decide +kernel
theorem dX9_put_63 : decode cX9_put 63 = .ok (.iconst 0, 1) := by decide +kernel
theorem dX9_put_64 : decode cX9_put 64 = .ok (.ireturn, 1) := by decide +kernel
theorem dX9_put_49 : decode cX9_put 49 = .ok (.aload_n 0, 1) := by decide +kernel
theorem dX9_put_50 : decode cX9_put 50 = .ok (.ldc 43, 2) := by decide +kernel
set_option maxRecDepth 20000 in
theorem ggX9_put_X9_finding : GoodIn wsX9_put wsX9_finding := goodIn_r _ [12, 13, 30, 31, 32, 33, 34, 35, 36, 37, 38, 39, 40] (by decide +kernel) (by decide +kernel)
set_option maxRecDepth 20000 in
theorem gX9_put_X9_finding : GoodIn wsX9_put (wsV RX9 44 RX9 yX9_finding wsX9_finding) := goodIn_app (goodIn_of _ (by decide +kernel)) ggX9_put_X9_finding
theorem dX9_put_52 : decode cX9_put 52 = .ok (.invokevirtual 44, 3) := by decide +kernel
theorem dX9_put_55 : decode cX9_put 55 = .ok (.ireturn, 1) := by decide +kernel
theorem dX9_put_31 : decode cX9_put 31 = .ok (.aload_n 0, 1) := by decide +kernel
theorem dX9_put_32 : decode cX9_put 32 = .ok (.ldc_w 292, 3) := by decide +kernel
theorem dX9_put_35 : decode cX9_put 35 = .ok (.invokevirtual 44, 3) := by decide +kernel
theorem dX9_put_38 : decode cX9_put 38 = .ok (.ireturn, 1) := by decide +kernel
theorem dX9_put_8 : decode cX9_put 8 = .ok (.aload_n 0, 1) := by decide +kernel
theorem dX9_put_9 : decode cX9_put 9 = .ok (.ldc 43, 2) := by decide +kernel
theorem dX9_put_11 : decode cX9_put 11 = .ok (.invokevirtual 44, 3) := by decide +kernel
theorem dX9_put_14 : decode cX9_put 14 = .ok (.ireturn, 1) := by decide +kernel
set_option maxRecDepth 20000 in
theorem ihX9_put_9 : ∀ w ∈ u_ws RX9 TX9 11, w ∈ wsX9_put := by decide +kernel
set_option maxHeartbeats 4000000 in
set_option maxRecDepth 100000 in
theorem t_X9_put (l : Launch) (D : va_G) (cy : Nat → ClassId) (a : Nat → Nat) (sz : Nat) (J : Nat → Int64) (I : Nat → Int32) (O : Nat → Option Nat) (R : Nat → Nat → Int32) (RO : Nat → Nat → Option Nat) (LL : va_W) (Y : va_W) (x0 : Int32) (x1 : Int32) (x2 : Int32) (hM : CI a Y I O RO) : Met l yX9_put wsX9_put ({ frames := 1, cells := 0, slots := 0, locals := 22 }) (va_Pc [.ref (a 0), .int x0, .int x1, .int x2] (PW D cy sz (CT cy a J I O R RO (LL ++ Y)))) (va_Qi (fun r (u : TS) => ∃ (w0 : Int32), ∃ (w1 : Nat → Int32), ∃ (w2 : Nat → Int32), ∃ (w3 : Nat → Int32), ∃ (w4 : Nat → Int32), (True) ∧ u = (J, (va_up I 10 w0), O, (va_up (va_up (va_up (va_up R 13 w1) 15 w2) 17 w3) 19 w4), RO, LL, Y)) (BW D (va_A (CT cy a J I O R RO (LL ++ Y)) sz) (CTu cy a)) (va_A (CT cy a J I O R RO (LL ++ Y)) sz)) 0 0 (va_A (CT cy a J I O R RO (LL ++ Y)) sz) := by
  refine Met.ofW (cc := cX9_put) (maxL := 5) (ret := (some .int)) (by decide) rfl ?_
  intro p e s m args below meth c s₁ B hml hv
  obtain ⟨rfl, rfl, hP, hK, hN, hD0⟩ := hv
  have hx := B.exec
  have hb := B.bytes
  have hr := B.returns
  have hts := atoms_spec (ws := wsX9_put) B.pre
  have hown : s.vm.findClass RX9 = some m.cls := findClass_of_methodNamed B.named
  have hlocks := B.notSynchronized
  have hw0 := hts (.fieldLink RX9 9 "ParquetLayer" "sheets" "[LParquetLayer$Sheet;") (by decide +kernel)
  have hw1 := hts (.constant RX9 43 (-100001)) (by decide +kernel)
  have hw2 := hts (.constant RX9 292 (-100002)) (by decide +kernel)
  have hi9 := ihX9_put_9
  have hD := hD0.self (sz := s.heap.size)
  generalize hAe : va_A (CT cy a J I O R RO (LL ++ Y)) s.heap.size = A at hD ⊢
  have hA : ∀ q : Nat, s.heap.size ≤ q → A q := fun q h => by rw [← hAe]; exact Or.inr h
  have hS : va_S A s.heap s.heap [] := va_S.rf
  have hl := lv_entry ([.ref (a 0), .int x0, .int x1, .int x2]) (n := 5) (Nat.le_of_ble_eq_true rfl)
  rw [lg_entry_eq]
  generalize (lg_sl ([.ref (a 0), .int x0, .int x1, .int x2]) ++ List.replicate (5 - (lg_sl ([.ref (a 0), .int x0, .int x1, .int x2])).length) Slot.unset).toArray = ls at hl ⊢
  have hl : lv_has ls 5 [(0, .ref (a 0)), (1, .int x0), (2, .int x1), (3, .int x2)] := hl
  have hRO0 := hM.2.2.2.2.2.2.2.2.1
  have hRO1 := hM.2.2.2.2.2.2.2.2.2.1
  have hRO2 := hM.2.2.2.2.2.2.2.2.2.2.1
  have hRO3 := hM.2.2.2.2.2.2.2.2.2.2.2
  have hP : va_P D vwCl (CT cy a J (va_up I 10 (I 10)) O (va_up (va_up (va_up (va_up R 13 (R 13)) 15 (R 15)) 17 (R 17)) 19 (R 19)) RO (LL ++ Y)) s.heap := hP
  have hD : va_D A (CT cy a J (va_up I 10 (I 10)) O (va_up (va_up (va_up (va_up R 13 (R 13)) 15 (R 15)) 17 (R 17)) 19 (R 19)) RO (LL ++ Y)) := hD
  refine lv_aload_n hx hb dX9_put_0 rfl (lv_at hl 0 rfl) ?_
  refine lv_iload_n hx hb dX9_put_1 rfl (lv_at hl 1 rfl) ?_
  refine kR_i (As := [.int x0]) (rest := []) (q0 := 0) ⟨hx, hb, hml, hown, hts⟩ (t_X9_isSheet l D cy a _ J (va_up I 10 (I 10)) O (va_up (va_up (va_up (va_up R 13 (R 13)) 15 (R 15)) 17 (R 17)) 19 (R 19)) RO LL Y x0  ) (cwV 1 hts gX9_put_X9_isSheet rfl rfl rfl (by decide +kernel) ⟨Nat.le_of_ble_eq_true rfl, Nat.le_of_ble_eq_true rfl⟩) hK hN hP hD rfl rfl rfl hl.1 rfl (Nat.le_of_ble_eq_true rfl) dX9_put_2 ⟨Nat.le_of_ble_eq_true rfl, Nat.le_of_ble_eq_true rfl⟩ ?_
  refine lv_if_ne (tgt := 15) hx hb dX9_put_5 (by decide) (fun c_1 => ?_) (fun c_1 => ?_)
  · replace c_1 := bI_t c_1
    refine lv_aload_n hx hb dX9_put_15 rfl (lv_at hl 0 rfl) ?_
    refine va_get (D := D) (ci := 8) (v := .ref (a 1)) (C := RX9) (T := TX9) (N := 11) hx hb hts hi9 hown hK hP 0 rfl rfl 0 (by decide) hw0 (fun _ h9 => h9) rfl dX9_put_16 ?_
    refine lv_iload_n hx hb dX9_put_19 rfl (lv_at hl 1 rfl) ?_
    refine va_aldq hx hb hK hP 1 4 rfl rfl (within_in4 c_1) dX9_put_20 ?_
    rcases in4 (within_in4 c_1) with hj_2 | hj_2 | hj_2 | hj_2
    · refine wtop_v (y := .ref (a 12)) (by rw [hj_2]; exact congrArg va_rf hRO0) ?_
      refine lv_astore (lv' := [(4, .ref (a 12)), (0, .ref (a 0)), (1, .int x0), (2, .int x1), (3, .int x2)]) hx hb dX9_put_21 hl (by decide) rfl (fun ls hl => ?_)
      refine lv_aload hx hb dX9_put_23 (lv_at hl 0 rfl) ?_
      refine kRa_i (As := []) (rest := []) (q0 := 12) ⟨hx, hb, hml, hown, hts⟩ (t_X6_isMissing12 l D cy a _ J (va_up I 10 (I 10)) O (va_up (va_up (va_up (va_up R 13 (R 13)) 15 (R 15)) 17 (R 17)) 19 (R 19)) RO LL Y   ) (cwV 0 hts gX9_put_X6_isMissing rfl rfl rfl (by decide +kernel) ⟨Nat.le_of_ble_eq_true rfl, Nat.le_of_ble_eq_true rfl⟩) hK hN hP hD rfl rfl rfl hl.1 rfl (Nat.le_of_ble_eq_true rfl) dX9_put_25 ⟨Nat.le_of_ble_eq_true rfl, Nat.le_of_ble_eq_true rfl⟩ (fun r_3 hr_4 => ?_)
      obtain ⟨zb_5, rfl⟩ := hr_4
      refine lv_if_eq (tgt := 39) hx hb dX9_put_28 (by decide) (fun c_6 => ?_) (fun c_6 => ?_)
      · replace c_6 := bI_f c_6
        refine lv_aload hx hb dX9_put_39 (lv_at hl 0 rfl) ?_
        refine lv_iload_n hx hb dX9_put_41 rfl (lv_at hl 3 rfl) ?_
        refine lv_iconst (v := 1) hx hb dX9_put_42 (by decide) ?_
        refine kRa_i (As := [.int x1, .int 1]) (rest := []) (q0 := 12) ⟨hx, hb, hml, hown, hts⟩ (t_X6_hasRange12 l D cy a _ J (va_up I 10 (I 10)) O (va_up (va_up (va_up (va_up R 13 (R 13)) 15 (R 15)) 17 (R 17)) 19 (R 19)) RO LL Y x1 (1 : Int32)  ) (cwV 2 hts gX9_put_X6_hasRange rfl rfl rfl (by decide +kernel) ⟨Nat.le_of_ble_eq_true rfl, Nat.le_of_ble_eq_true rfl⟩) hK hN hP hD rfl rfl rfl hl.1 rfl (Nat.le_of_ble_eq_true rfl) dX9_put_43 ⟨Nat.le_of_ble_eq_true rfl, Nat.le_of_ble_eq_true rfl⟩ (fun r_7 hr_8 => ?_)
        refine lv_if_ne (tgt := 56) hx hb dX9_put_46 (by decide) (fun c_9 => ?_) (fun c_9 => ?_)
        · refine lv_aload hx hb dX9_put_56 (lv_at hl 0 rfl) ?_
          refine lv_iload_n hx hb dX9_put_58 rfl (lv_at hl 3 rfl) ?_
          refine lv_iload_n hx hb dX9_put_59 rfl (lv_at hl 4 rfl) ?_
          refine kM_v (As := [.int x1, .int x2]) (rest := []) (q0 := 12) ⟨hx, hb, hml, hown, hts⟩ (t_X6_write12 l D cy a _ J (va_up I 10 (I 10)) O (va_up (va_up (va_up (va_up R 13 (R 13)) 15 (R 15)) 17 (R 17)) 19 (R 19)) RO LL Y x1 x2   ) (cwV 2 hts gX9_put_X6_write rfl rfl rfl (by decide +kernel) ⟨Nat.le_of_ble_eq_true rfl, Nat.le_of_ble_eq_true rfl⟩) hK hN hP hD hS hA rfl rfl rfl hl.1 rfl (Nat.le_of_ble_eq_true rfl) dX9_put_60 ⟨Nat.le_of_ble_eq_true rfl, Nat.le_of_ble_eq_true rfl⟩ (fun u H locs hw hP hD hS => ?_)
          obtain ⟨w_11, -, rfl⟩ := hw
          have hP : va_P D vwCl (CT cy a J (va_up I 10 (I 10)) O (va_up (va_up (va_up (va_up R 13 w_11) 15 (R 15)) 17 (R 17)) 19 (R 19)) RO (LL ++ Y)) H := hP
          have hD : va_D A (CT cy a J (va_up I 10 (I 10)) O (va_up (va_up (va_up (va_up R 13 w_11) 15 (R 15)) 17 (R 17)) 19 (R 19)) RO (LL ++ Y)) := hD
          refine lv_iconst (v := 0) hx hb dX9_put_63 (by decide) ?_
          exact wret_i hx hb hr hlocks (J, (va_up I 10 (I 10)), O, (va_up (va_up (va_up (va_up R 13 w_11) 15 (R 15)) 17 (R 17)) 19 (R 19)), RO, LL, Y) ⟨(I 10), w_11, (R 15), (R 17), (R 19), trivial, rfl⟩ hP hD hS dX9_put_64
        · refine lv_aload_n hx hb dX9_put_49 rfl (lv_at hl 1 rfl) ?_
          refine lv_ldc (v := (-100001)) hx hb hown hw1 dX9_put_50 ?_
          refine kM_i (As := [.int (-100001)]) (rest := []) (q0 := 0) ⟨hx, hb, hml, hown, hts⟩ (t_X9_finding l D cy a _ J (va_up I 10 (I 10)) O (va_up (va_up (va_up (va_up R 13 (R 13)) 15 (R 15)) 17 (R 17)) 19 (R 19)) RO LL Y ((-100001) : Int32)   ) (cwV 1 hts gX9_put_X9_finding rfl rfl rfl (by decide +kernel) ⟨Nat.le_of_ble_eq_true rfl, Nat.le_of_ble_eq_true rfl⟩) hK hN hP hD hS hA rfl rfl rfl hl.1 rfl (Nat.le_of_ble_eq_true rfl) dX9_put_52 ⟨Nat.le_of_ble_eq_true rfl, Nat.le_of_ble_eq_true rfl⟩ (fun r_12 u H locs hw hP hD hS => ?_)
          obtain ⟨w_13, rfl, rfl⟩ := hw
          have hP : va_P D vwCl (CT cy a J (va_up I 10 w_13) O (va_up (va_up (va_up (va_up R 13 (R 13)) 15 (R 15)) 17 (R 17)) 19 (R 19)) RO (LL ++ Y)) H := hP
          have hD : va_D A (CT cy a J (va_up I 10 w_13) O (va_up (va_up (va_up (va_up R 13 (R 13)) 15 (R 15)) 17 (R 17)) 19 (R 19)) RO (LL ++ Y)) := hD
          exact wret_i hx hb hr hlocks (J, (va_up I 10 w_13), O, (va_up (va_up (va_up (va_up R 13 (R 13)) 15 (R 15)) 17 (R 17)) 19 (R 19)), RO, LL, Y) ⟨w_13, (R 13), (R 15), (R 17), (R 19), trivial, rfl⟩ hP hD hS dX9_put_55
      · replace c_6 := bI_t c_6
        refine lv_aload_n hx hb dX9_put_31 rfl (lv_at hl 1 rfl) ?_
        refine lv_ldcw (v := (-100002)) hx hb hown hw2 dX9_put_32 ?_
        refine kM_i (As := [.int (-100002)]) (rest := []) (q0 := 0) ⟨hx, hb, hml, hown, hts⟩ (t_X9_finding l D cy a _ J (va_up I 10 (I 10)) O (va_up (va_up (va_up (va_up R 13 (R 13)) 15 (R 15)) 17 (R 17)) 19 (R 19)) RO LL Y ((-100002) : Int32)   ) (cwV 1 hts gX9_put_X9_finding rfl rfl rfl (by decide +kernel) ⟨Nat.le_of_ble_eq_true rfl, Nat.le_of_ble_eq_true rfl⟩) hK hN hP hD hS hA rfl rfl rfl hl.1 rfl (Nat.le_of_ble_eq_true rfl) dX9_put_35 ⟨Nat.le_of_ble_eq_true rfl, Nat.le_of_ble_eq_true rfl⟩ (fun r_14 u H locs hw hP hD hS => ?_)
        obtain ⟨w_15, rfl, rfl⟩ := hw
        have hP : va_P D vwCl (CT cy a J (va_up I 10 w_15) O (va_up (va_up (va_up (va_up R 13 (R 13)) 15 (R 15)) 17 (R 17)) 19 (R 19)) RO (LL ++ Y)) H := hP
        have hD : va_D A (CT cy a J (va_up I 10 w_15) O (va_up (va_up (va_up (va_up R 13 (R 13)) 15 (R 15)) 17 (R 17)) 19 (R 19)) RO (LL ++ Y)) := hD
        exact wret_i hx hb hr hlocks (J, (va_up I 10 w_15), O, (va_up (va_up (va_up (va_up R 13 (R 13)) 15 (R 15)) 17 (R 17)) 19 (R 19)), RO, LL, Y) ⟨w_15, (R 13), (R 15), (R 17), (R 19), trivial, rfl⟩ hP hD hS dX9_put_38
    · refine wtop_v (y := .ref (a 14)) (by rw [hj_2]; exact congrArg va_rf hRO1) ?_
      refine lv_astore (lv' := [(4, .ref (a 14)), (0, .ref (a 0)), (1, .int x0), (2, .int x1), (3, .int x2)]) hx hb dX9_put_21 hl (by decide) rfl (fun ls hl => ?_)
      refine lv_aload hx hb dX9_put_23 (lv_at hl 0 rfl) ?_
      refine kRa_i (As := []) (rest := []) (q0 := 14) ⟨hx, hb, hml, hown, hts⟩ (t_X6_isMissing14 l D cy a _ J (va_up I 10 (I 10)) O (va_up (va_up (va_up (va_up R 13 (R 13)) 15 (R 15)) 17 (R 17)) 19 (R 19)) RO LL Y   ) (cwV 0 hts gX9_put_X6_isMissing rfl rfl rfl (by decide +kernel) ⟨Nat.le_of_ble_eq_true rfl, Nat.le_of_ble_eq_true rfl⟩) hK hN hP hD rfl rfl rfl hl.1 rfl (Nat.le_of_ble_eq_true rfl) dX9_put_25 ⟨Nat.le_of_ble_eq_true rfl, Nat.le_of_ble_eq_true rfl⟩ (fun r_16 hr_17 => ?_)
      obtain ⟨zb_18, rfl⟩ := hr_17
      refine lv_if_eq (tgt := 39) hx hb dX9_put_28 (by decide) (fun c_19 => ?_) (fun c_19 => ?_)
      · replace c_19 := bI_f c_19
        refine lv_aload hx hb dX9_put_39 (lv_at hl 0 rfl) ?_
        refine lv_iload_n hx hb dX9_put_41 rfl (lv_at hl 3 rfl) ?_
        refine lv_iconst (v := 1) hx hb dX9_put_42 (by decide) ?_
        refine kRa_i (As := [.int x1, .int 1]) (rest := []) (q0 := 14) ⟨hx, hb, hml, hown, hts⟩ (t_X6_hasRange14 l D cy a _ J (va_up I 10 (I 10)) O (va_up (va_up (va_up (va_up R 13 (R 13)) 15 (R 15)) 17 (R 17)) 19 (R 19)) RO LL Y x1 (1 : Int32)  ) (cwV 2 hts gX9_put_X6_hasRange rfl rfl rfl (by decide +kernel) ⟨Nat.le_of_ble_eq_true rfl, Nat.le_of_ble_eq_true rfl⟩) hK hN hP hD rfl rfl rfl hl.1 rfl (Nat.le_of_ble_eq_true rfl) dX9_put_43 ⟨Nat.le_of_ble_eq_true rfl, Nat.le_of_ble_eq_true rfl⟩ (fun r_20 hr_21 => ?_)
        refine lv_if_ne (tgt := 56) hx hb dX9_put_46 (by decide) (fun c_22 => ?_) (fun c_22 => ?_)
        · refine lv_aload hx hb dX9_put_56 (lv_at hl 0 rfl) ?_
          refine lv_iload_n hx hb dX9_put_58 rfl (lv_at hl 3 rfl) ?_
          refine lv_iload_n hx hb dX9_put_59 rfl (lv_at hl 4 rfl) ?_
          refine kM_v (As := [.int x1, .int x2]) (rest := []) (q0 := 14) ⟨hx, hb, hml, hown, hts⟩ (t_X6_write14 l D cy a _ J (va_up I 10 (I 10)) O (va_up (va_up (va_up (va_up R 13 (R 13)) 15 (R 15)) 17 (R 17)) 19 (R 19)) RO LL Y x1 x2   ) (cwV 2 hts gX9_put_X6_write rfl rfl rfl (by decide +kernel) ⟨Nat.le_of_ble_eq_true rfl, Nat.le_of_ble_eq_true rfl⟩) hK hN hP hD hS hA rfl rfl rfl hl.1 rfl (Nat.le_of_ble_eq_true rfl) dX9_put_60 ⟨Nat.le_of_ble_eq_true rfl, Nat.le_of_ble_eq_true rfl⟩ (fun u H locs hw hP hD hS => ?_)
          obtain ⟨w_24, -, rfl⟩ := hw
          have hP : va_P D vwCl (CT cy a J (va_up I 10 (I 10)) O (va_up (va_up (va_up (va_up R 13 (R 13)) 15 w_24) 17 (R 17)) 19 (R 19)) RO (LL ++ Y)) H := hP
          have hD : va_D A (CT cy a J (va_up I 10 (I 10)) O (va_up (va_up (va_up (va_up R 13 (R 13)) 15 w_24) 17 (R 17)) 19 (R 19)) RO (LL ++ Y)) := hD
          refine lv_iconst (v := 0) hx hb dX9_put_63 (by decide) ?_
          exact wret_i hx hb hr hlocks (J, (va_up I 10 (I 10)), O, (va_up (va_up (va_up (va_up R 13 (R 13)) 15 w_24) 17 (R 17)) 19 (R 19)), RO, LL, Y) ⟨(I 10), (R 13), w_24, (R 17), (R 19), trivial, rfl⟩ hP hD hS dX9_put_64
        · refine lv_aload_n hx hb dX9_put_49 rfl (lv_at hl 1 rfl) ?_
          refine lv_ldc (v := (-100001)) hx hb hown hw1 dX9_put_50 ?_
          refine kM_i (As := [.int (-100001)]) (rest := []) (q0 := 0) ⟨hx, hb, hml, hown, hts⟩ (t_X9_finding l D cy a _ J (va_up I 10 (I 10)) O (va_up (va_up (va_up (va_up R 13 (R 13)) 15 (R 15)) 17 (R 17)) 19 (R 19)) RO LL Y ((-100001) : Int32)   ) (cwV 1 hts gX9_put_X9_finding rfl rfl rfl (by decide +kernel) ⟨Nat.le_of_ble_eq_true rfl, Nat.le_of_ble_eq_true rfl⟩) hK hN hP hD hS hA rfl rfl rfl hl.1 rfl (Nat.le_of_ble_eq_true rfl) dX9_put_52 ⟨Nat.le_of_ble_eq_true rfl, Nat.le_of_ble_eq_true rfl⟩ (fun r_25 u H locs hw hP hD hS => ?_)
          obtain ⟨w_26, rfl, rfl⟩ := hw
          have hP : va_P D vwCl (CT cy a J (va_up I 10 w_26) O (va_up (va_up (va_up (va_up R 13 (R 13)) 15 (R 15)) 17 (R 17)) 19 (R 19)) RO (LL ++ Y)) H := hP
          have hD : va_D A (CT cy a J (va_up I 10 w_26) O (va_up (va_up (va_up (va_up R 13 (R 13)) 15 (R 15)) 17 (R 17)) 19 (R 19)) RO (LL ++ Y)) := hD
          exact wret_i hx hb hr hlocks (J, (va_up I 10 w_26), O, (va_up (va_up (va_up (va_up R 13 (R 13)) 15 (R 15)) 17 (R 17)) 19 (R 19)), RO, LL, Y) ⟨w_26, (R 13), (R 15), (R 17), (R 19), trivial, rfl⟩ hP hD hS dX9_put_55
      · replace c_19 := bI_t c_19
        refine lv_aload_n hx hb dX9_put_31 rfl (lv_at hl 1 rfl) ?_
        refine lv_ldcw (v := (-100002)) hx hb hown hw2 dX9_put_32 ?_
        refine kM_i (As := [.int (-100002)]) (rest := []) (q0 := 0) ⟨hx, hb, hml, hown, hts⟩ (t_X9_finding l D cy a _ J (va_up I 10 (I 10)) O (va_up (va_up (va_up (va_up R 13 (R 13)) 15 (R 15)) 17 (R 17)) 19 (R 19)) RO LL Y ((-100002) : Int32)   ) (cwV 1 hts gX9_put_X9_finding rfl rfl rfl (by decide +kernel) ⟨Nat.le_of_ble_eq_true rfl, Nat.le_of_ble_eq_true rfl⟩) hK hN hP hD hS hA rfl rfl rfl hl.1 rfl (Nat.le_of_ble_eq_true rfl) dX9_put_35 ⟨Nat.le_of_ble_eq_true rfl, Nat.le_of_ble_eq_true rfl⟩ (fun r_27 u H locs hw hP hD hS => ?_)
        obtain ⟨w_28, rfl, rfl⟩ := hw
        have hP : va_P D vwCl (CT cy a J (va_up I 10 w_28) O (va_up (va_up (va_up (va_up R 13 (R 13)) 15 (R 15)) 17 (R 17)) 19 (R 19)) RO (LL ++ Y)) H := hP
        have hD : va_D A (CT cy a J (va_up I 10 w_28) O (va_up (va_up (va_up (va_up R 13 (R 13)) 15 (R 15)) 17 (R 17)) 19 (R 19)) RO (LL ++ Y)) := hD
        exact wret_i hx hb hr hlocks (J, (va_up I 10 w_28), O, (va_up (va_up (va_up (va_up R 13 (R 13)) 15 (R 15)) 17 (R 17)) 19 (R 19)), RO, LL, Y) ⟨w_28, (R 13), (R 15), (R 17), (R 19), trivial, rfl⟩ hP hD hS dX9_put_38
    · refine wtop_v (y := .ref (a 16)) (by rw [hj_2]; exact congrArg va_rf hRO2) ?_
      refine lv_astore (lv' := [(4, .ref (a 16)), (0, .ref (a 0)), (1, .int x0), (2, .int x1), (3, .int x2)]) hx hb dX9_put_21 hl (by decide) rfl (fun ls hl => ?_)
      refine lv_aload hx hb dX9_put_23 (lv_at hl 0 rfl) ?_
      refine kRa_i (As := []) (rest := []) (q0 := 16) ⟨hx, hb, hml, hown, hts⟩ (t_X6_isMissing16 l D cy a _ J (va_up I 10 (I 10)) O (va_up (va_up (va_up (va_up R 13 (R 13)) 15 (R 15)) 17 (R 17)) 19 (R 19)) RO LL Y   ) (cwV 0 hts gX9_put_X6_isMissing rfl rfl rfl (by decide +kernel) ⟨Nat.le_of_ble_eq_true rfl, Nat.le_of_ble_eq_true rfl⟩) hK hN hP hD rfl rfl rfl hl.1 rfl (Nat.le_of_ble_eq_true rfl) dX9_put_25 ⟨Nat.le_of_ble_eq_true rfl, Nat.le_of_ble_eq_true rfl⟩ (fun r_29 hr_30 => ?_)
      obtain ⟨zb_31, rfl⟩ := hr_30
      refine lv_if_eq (tgt := 39) hx hb dX9_put_28 (by decide) (fun c_32 => ?_) (fun c_32 => ?_)
      · replace c_32 := bI_f c_32
        refine lv_aload hx hb dX9_put_39 (lv_at hl 0 rfl) ?_
        refine lv_iload_n hx hb dX9_put_41 rfl (lv_at hl 3 rfl) ?_
        refine lv_iconst (v := 1) hx hb dX9_put_42 (by decide) ?_
        refine kRa_i (As := [.int x1, .int 1]) (rest := []) (q0 := 16) ⟨hx, hb, hml, hown, hts⟩ (t_X6_hasRange16 l D cy a _ J (va_up I 10 (I 10)) O (va_up (va_up (va_up (va_up R 13 (R 13)) 15 (R 15)) 17 (R 17)) 19 (R 19)) RO LL Y x1 (1 : Int32)  ) (cwV 2 hts gX9_put_X6_hasRange rfl rfl rfl (by decide +kernel) ⟨Nat.le_of_ble_eq_true rfl, Nat.le_of_ble_eq_true rfl⟩) hK hN hP hD rfl rfl rfl hl.1 rfl (Nat.le_of_ble_eq_true rfl) dX9_put_43 ⟨Nat.le_of_ble_eq_true rfl, Nat.le_of_ble_eq_true rfl⟩ (fun r_33 hr_34 => ?_)
        refine lv_if_ne (tgt := 56) hx hb dX9_put_46 (by decide) (fun c_35 => ?_) (fun c_35 => ?_)
        · refine lv_aload hx hb dX9_put_56 (lv_at hl 0 rfl) ?_
          refine lv_iload_n hx hb dX9_put_58 rfl (lv_at hl 3 rfl) ?_
          refine lv_iload_n hx hb dX9_put_59 rfl (lv_at hl 4 rfl) ?_
          refine kM_v (As := [.int x1, .int x2]) (rest := []) (q0 := 16) ⟨hx, hb, hml, hown, hts⟩ (t_X6_write16 l D cy a _ J (va_up I 10 (I 10)) O (va_up (va_up (va_up (va_up R 13 (R 13)) 15 (R 15)) 17 (R 17)) 19 (R 19)) RO LL Y x1 x2   ) (cwV 2 hts gX9_put_X6_write rfl rfl rfl (by decide +kernel) ⟨Nat.le_of_ble_eq_true rfl, Nat.le_of_ble_eq_true rfl⟩) hK hN hP hD hS hA rfl rfl rfl hl.1 rfl (Nat.le_of_ble_eq_true rfl) dX9_put_60 ⟨Nat.le_of_ble_eq_true rfl, Nat.le_of_ble_eq_true rfl⟩ (fun u H locs hw hP hD hS => ?_)
          obtain ⟨w_37, -, rfl⟩ := hw
          have hP : va_P D vwCl (CT cy a J (va_up I 10 (I 10)) O (va_up (va_up (va_up (va_up R 13 (R 13)) 15 (R 15)) 17 w_37) 19 (R 19)) RO (LL ++ Y)) H := hP
          have hD : va_D A (CT cy a J (va_up I 10 (I 10)) O (va_up (va_up (va_up (va_up R 13 (R 13)) 15 (R 15)) 17 w_37) 19 (R 19)) RO (LL ++ Y)) := hD
          refine lv_iconst (v := 0) hx hb dX9_put_63 (by decide) ?_
          exact wret_i hx hb hr hlocks (J, (va_up I 10 (I 10)), O, (va_up (va_up (va_up (va_up R 13 (R 13)) 15 (R 15)) 17 w_37) 19 (R 19)), RO, LL, Y) ⟨(I 10), (R 13), (R 15), w_37, (R 19), trivial, rfl⟩ hP hD hS dX9_put_64
        · refine lv_aload_n hx hb dX9_put_49 rfl (lv_at hl 1 rfl) ?_
          refine lv_ldc (v := (-100001)) hx hb hown hw1 dX9_put_50 ?_
          refine kM_i (As := [.int (-100001)]) (rest := []) (q0 := 0) ⟨hx, hb, hml, hown, hts⟩ (t_X9_finding l D cy a _ J (va_up I 10 (I 10)) O (va_up (va_up (va_up (va_up R 13 (R 13)) 15 (R 15)) 17 (R 17)) 19 (R 19)) RO LL Y ((-100001) : Int32)   ) (cwV 1 hts gX9_put_X9_finding rfl rfl rfl (by decide +kernel) ⟨Nat.le_of_ble_eq_true rfl, Nat.le_of_ble_eq_true rfl⟩) hK hN hP hD hS hA rfl rfl rfl hl.1 rfl (Nat.le_of_ble_eq_true rfl) dX9_put_52 ⟨Nat.le_of_ble_eq_true rfl, Nat.le_of_ble_eq_true rfl⟩ (fun r_38 u H locs hw hP hD hS => ?_)
          obtain ⟨w_39, rfl, rfl⟩ := hw
          have hP : va_P D vwCl (CT cy a J (va_up I 10 w_39) O (va_up (va_up (va_up (va_up R 13 (R 13)) 15 (R 15)) 17 (R 17)) 19 (R 19)) RO (LL ++ Y)) H := hP
          have hD : va_D A (CT cy a J (va_up I 10 w_39) O (va_up (va_up (va_up (va_up R 13 (R 13)) 15 (R 15)) 17 (R 17)) 19 (R 19)) RO (LL ++ Y)) := hD
          exact wret_i hx hb hr hlocks (J, (va_up I 10 w_39), O, (va_up (va_up (va_up (va_up R 13 (R 13)) 15 (R 15)) 17 (R 17)) 19 (R 19)), RO, LL, Y) ⟨w_39, (R 13), (R 15), (R 17), (R 19), trivial, rfl⟩ hP hD hS dX9_put_55
      · replace c_32 := bI_t c_32
        refine lv_aload_n hx hb dX9_put_31 rfl (lv_at hl 1 rfl) ?_
        refine lv_ldcw (v := (-100002)) hx hb hown hw2 dX9_put_32 ?_
        refine kM_i (As := [.int (-100002)]) (rest := []) (q0 := 0) ⟨hx, hb, hml, hown, hts⟩ (t_X9_finding l D cy a _ J (va_up I 10 (I 10)) O (va_up (va_up (va_up (va_up R 13 (R 13)) 15 (R 15)) 17 (R 17)) 19 (R 19)) RO LL Y ((-100002) : Int32)   ) (cwV 1 hts gX9_put_X9_finding rfl rfl rfl (by decide +kernel) ⟨Nat.le_of_ble_eq_true rfl, Nat.le_of_ble_eq_true rfl⟩) hK hN hP hD hS hA rfl rfl rfl hl.1 rfl (Nat.le_of_ble_eq_true rfl) dX9_put_35 ⟨Nat.le_of_ble_eq_true rfl, Nat.le_of_ble_eq_true rfl⟩ (fun r_40 u H locs hw hP hD hS => ?_)
        obtain ⟨w_41, rfl, rfl⟩ := hw
        have hP : va_P D vwCl (CT cy a J (va_up I 10 w_41) O (va_up (va_up (va_up (va_up R 13 (R 13)) 15 (R 15)) 17 (R 17)) 19 (R 19)) RO (LL ++ Y)) H := hP
        have hD : va_D A (CT cy a J (va_up I 10 w_41) O (va_up (va_up (va_up (va_up R 13 (R 13)) 15 (R 15)) 17 (R 17)) 19 (R 19)) RO (LL ++ Y)) := hD
        exact wret_i hx hb hr hlocks (J, (va_up I 10 w_41), O, (va_up (va_up (va_up (va_up R 13 (R 13)) 15 (R 15)) 17 (R 17)) 19 (R 19)), RO, LL, Y) ⟨w_41, (R 13), (R 15), (R 17), (R 19), trivial, rfl⟩ hP hD hS dX9_put_38
    · refine wtop_v (y := .ref (a 18)) (by rw [hj_2]; exact congrArg va_rf hRO3) ?_
      refine lv_astore (lv' := [(4, .ref (a 18)), (0, .ref (a 0)), (1, .int x0), (2, .int x1), (3, .int x2)]) hx hb dX9_put_21 hl (by decide) rfl (fun ls hl => ?_)
      refine lv_aload hx hb dX9_put_23 (lv_at hl 0 rfl) ?_
      refine kRa_i (As := []) (rest := []) (q0 := 18) ⟨hx, hb, hml, hown, hts⟩ (t_X6_isMissing18 l D cy a _ J (va_up I 10 (I 10)) O (va_up (va_up (va_up (va_up R 13 (R 13)) 15 (R 15)) 17 (R 17)) 19 (R 19)) RO LL Y   ) (cwV 0 hts gX9_put_X6_isMissing rfl rfl rfl (by decide +kernel) ⟨Nat.le_of_ble_eq_true rfl, Nat.le_of_ble_eq_true rfl⟩) hK hN hP hD rfl rfl rfl hl.1 rfl (Nat.le_of_ble_eq_true rfl) dX9_put_25 ⟨Nat.le_of_ble_eq_true rfl, Nat.le_of_ble_eq_true rfl⟩ (fun r_42 hr_43 => ?_)
      obtain ⟨zb_44, rfl⟩ := hr_43
      refine lv_if_eq (tgt := 39) hx hb dX9_put_28 (by decide) (fun c_45 => ?_) (fun c_45 => ?_)
      · replace c_45 := bI_f c_45
        refine lv_aload hx hb dX9_put_39 (lv_at hl 0 rfl) ?_
        refine lv_iload_n hx hb dX9_put_41 rfl (lv_at hl 3 rfl) ?_
        refine lv_iconst (v := 1) hx hb dX9_put_42 (by decide) ?_
        refine kRa_i (As := [.int x1, .int 1]) (rest := []) (q0 := 18) ⟨hx, hb, hml, hown, hts⟩ (t_X6_hasRange18 l D cy a _ J (va_up I 10 (I 10)) O (va_up (va_up (va_up (va_up R 13 (R 13)) 15 (R 15)) 17 (R 17)) 19 (R 19)) RO LL Y x1 (1 : Int32)  ) (cwV 2 hts gX9_put_X6_hasRange rfl rfl rfl (by decide +kernel) ⟨Nat.le_of_ble_eq_true rfl, Nat.le_of_ble_eq_true rfl⟩) hK hN hP hD rfl rfl rfl hl.1 rfl (Nat.le_of_ble_eq_true rfl) dX9_put_43 ⟨Nat.le_of_ble_eq_true rfl, Nat.le_of_ble_eq_true rfl⟩ (fun r_46 hr_47 => ?_)
        refine lv_if_ne (tgt := 56) hx hb dX9_put_46 (by decide) (fun c_48 => ?_) (fun c_48 => ?_)
        · refine lv_aload hx hb dX9_put_56 (lv_at hl 0 rfl) ?_
          refine lv_iload_n hx hb dX9_put_58 rfl (lv_at hl 3 rfl) ?_
          refine lv_iload_n hx hb dX9_put_59 rfl (lv_at hl 4 rfl) ?_
          refine kM_v (As := [.int x1, .int x2]) (rest := []) (q0 := 18) ⟨hx, hb, hml, hown, hts⟩ (t_X6_write18 l D cy a _ J (va_up I 10 (I 10)) O (va_up (va_up (va_up (va_up R 13 (R 13)) 15 (R 15)) 17 (R 17)) 19 (R 19)) RO LL Y x1 x2   ) (cwV 2 hts gX9_put_X6_write rfl rfl rfl (by decide +kernel) ⟨Nat.le_of_ble_eq_true rfl, Nat.le_of_ble_eq_true rfl⟩) hK hN hP hD hS hA rfl rfl rfl hl.1 rfl (Nat.le_of_ble_eq_true rfl) dX9_put_60 ⟨Nat.le_of_ble_eq_true rfl, Nat.le_of_ble_eq_true rfl⟩ (fun u H locs hw hP hD hS => ?_)
          obtain ⟨w_50, -, rfl⟩ := hw
          have hP : va_P D vwCl (CT cy a J (va_up I 10 (I 10)) O (va_up (va_up (va_up (va_up R 13 (R 13)) 15 (R 15)) 17 (R 17)) 19 w_50) RO (LL ++ Y)) H := hP
          have hD : va_D A (CT cy a J (va_up I 10 (I 10)) O (va_up (va_up (va_up (va_up R 13 (R 13)) 15 (R 15)) 17 (R 17)) 19 w_50) RO (LL ++ Y)) := hD
          refine lv_iconst (v := 0) hx hb dX9_put_63 (by decide) ?_
          exact wret_i hx hb hr hlocks (J, (va_up I 10 (I 10)), O, (va_up (va_up (va_up (va_up R 13 (R 13)) 15 (R 15)) 17 (R 17)) 19 w_50), RO, LL, Y) ⟨(I 10), (R 13), (R 15), (R 17), w_50, trivial, rfl⟩ hP hD hS dX9_put_64
        · refine lv_aload_n hx hb dX9_put_49 rfl (lv_at hl 1 rfl) ?_
          refine lv_ldc (v := (-100001)) hx hb hown hw1 dX9_put_50 ?_
          refine kM_i (As := [.int (-100001)]) (rest := []) (q0 := 0) ⟨hx, hb, hml, hown, hts⟩ (t_X9_finding l D cy a _ J (va_up I 10 (I 10)) O (va_up (va_up (va_up (va_up R 13 (R 13)) 15 (R 15)) 17 (R 17)) 19 (R 19)) RO LL Y ((-100001) : Int32)   ) (cwV 1 hts gX9_put_X9_finding rfl rfl rfl (by decide +kernel) ⟨Nat.le_of_ble_eq_true rfl, Nat.le_of_ble_eq_true rfl⟩) hK hN hP hD hS hA rfl rfl rfl hl.1 rfl (Nat.le_of_ble_eq_true rfl) dX9_put_52 ⟨Nat.le_of_ble_eq_true rfl, Nat.le_of_ble_eq_true rfl⟩ (fun r_51 u H locs hw hP hD hS => ?_)
          obtain ⟨w_52, rfl, rfl⟩ := hw
          have hP : va_P D vwCl (CT cy a J (va_up I 10 w_52) O (va_up (va_up (va_up (va_up R 13 (R 13)) 15 (R 15)) 17 (R 17)) 19 (R 19)) RO (LL ++ Y)) H := hP
          have hD : va_D A (CT cy a J (va_up I 10 w_52) O (va_up (va_up (va_up (va_up R 13 (R 13)) 15 (R 15)) 17 (R 17)) 19 (R 19)) RO (LL ++ Y)) := hD
          exact wret_i hx hb hr hlocks (J, (va_up I 10 w_52), O, (va_up (va_up (va_up (va_up R 13 (R 13)) 15 (R 15)) 17 (R 17)) 19 (R 19)), RO, LL, Y) ⟨w_52, (R 13), (R 15), (R 17), (R 19), trivial, rfl⟩ hP hD hS dX9_put_55
      · replace c_45 := bI_t c_45
        refine lv_aload_n hx hb dX9_put_31 rfl (lv_at hl 1 rfl) ?_
        refine lv_ldcw (v := (-100002)) hx hb hown hw2 dX9_put_32 ?_
        refine kM_i (As := [.int (-100002)]) (rest := []) (q0 := 0) ⟨hx, hb, hml, hown, hts⟩ (t_X9_finding l D cy a _ J (va_up I 10 (I 10)) O (va_up (va_up (va_up (va_up R 13 (R 13)) 15 (R 15)) 17 (R 17)) 19 (R 19)) RO LL Y ((-100002) : Int32)   ) (cwV 1 hts gX9_put_X9_finding rfl rfl rfl (by decide +kernel) ⟨Nat.le_of_ble_eq_true rfl, Nat.le_of_ble_eq_true rfl⟩) hK hN hP hD hS hA rfl rfl rfl hl.1 rfl (Nat.le_of_ble_eq_true rfl) dX9_put_35 ⟨Nat.le_of_ble_eq_true rfl, Nat.le_of_ble_eq_true rfl⟩ (fun r_53 u H locs hw hP hD hS => ?_)
        obtain ⟨w_54, rfl, rfl⟩ := hw
        have hP : va_P D vwCl (CT cy a J (va_up I 10 w_54) O (va_up (va_up (va_up (va_up R 13 (R 13)) 15 (R 15)) 17 (R 17)) 19 (R 19)) RO (LL ++ Y)) H := hP
        have hD : va_D A (CT cy a J (va_up I 10 w_54) O (va_up (va_up (va_up (va_up R 13 (R 13)) 15 (R 15)) 17 (R 17)) 19 (R 19)) RO (LL ++ Y)) := hD
        exact wret_i hx hb hr hlocks (J, (va_up I 10 w_54), O, (va_up (va_up (va_up (va_up R 13 (R 13)) 15 (R 15)) 17 (R 17)) 19 (R 19)), RO, LL, Y) ⟨w_54, (R 13), (R 15), (R 17), (R 19), trivial, rfl⟩ hP hD hS dX9_put_38
  · replace c_1 := bI_f c_1
    refine lv_aload_n hx hb dX9_put_8 rfl (lv_at hl 0 rfl) ?_
    refine lv_ldc (v := (-100001)) hx hb hown hw1 dX9_put_9 ?_
    refine kM_i (As := [.int (-100001)]) (rest := []) (q0 := 0) ⟨hx, hb, hml, hown, hts⟩ (t_X9_finding l D cy a _ J (va_up I 10 (I 10)) O (va_up (va_up (va_up (va_up R 13 (R 13)) 15 (R 15)) 17 (R 17)) 19 (R 19)) RO LL Y ((-100001) : Int32)   ) (cwV 1 hts gX9_put_X9_finding rfl rfl rfl (by decide +kernel) ⟨Nat.le_of_ble_eq_true rfl, Nat.le_of_ble_eq_true rfl⟩) hK hN hP hD hS hA rfl rfl rfl hl.1 rfl (Nat.le_of_ble_eq_true rfl) dX9_put_11 ⟨Nat.le_of_ble_eq_true rfl, Nat.le_of_ble_eq_true rfl⟩ (fun r_55 u H locs hw hP hD hS => ?_)
    obtain ⟨w_56, rfl, rfl⟩ := hw
    have hP : va_P D vwCl (CT cy a J (va_up I 10 w_56) O (va_up (va_up (va_up (va_up R 13 (R 13)) 15 (R 15)) 17 (R 17)) 19 (R 19)) RO (LL ++ Y)) H := hP
    have hD : va_D A (CT cy a J (va_up I 10 w_56) O (va_up (va_up (va_up (va_up R 13 (R 13)) 15 (R 15)) 17 (R 17)) 19 (R 19)) RO (LL ++ Y)) := hD
    exact wret_i hx hb hr hlocks (J, (va_up I 10 w_56), O, (va_up (va_up (va_up (va_up R 13 (R 13)) 15 (R 15)) 17 (R 17)) 19 (R 19)), RO, LL, Y) ⟨w_56, (R 13), (R 15), (R 17), (R 19), trivial, rfl⟩ hP hD hS dX9_put_14
theorem dX9_planks_0 : decode cX9_planks 0 = .ok (.aload_n 0, 1) := by decide +kernel
theorem dX9_planks_1 : decode cX9_planks 1 = .ok (.iload_n 1, 1) := by decide +kernel
set_option maxRecDepth 20000 in
theorem ggX9_planks_X9_isSheet : GoodIn wsX9_planks wsX9_isSheet := goodIn_r _ [10, 2, 77, 78, 79, 80, 81, 82, 83, 84, 85, 86, 87] (by decide +kernel) (by decide +kernel)
set_option maxRecDepth 20000 in
theorem gX9_planks_X9_isSheet : GoodIn wsX9_planks (wsV RX9 279 RX9 yX9_isSheet wsX9_isSheet) := goodIn_app (goodIn_of _ (by decide +kernel)) ggX9_planks_X9_isSheet
theorem dX9_planks_2 : decode cX9_planks 2 = .ok (.invokevirtual 279, 3) := by decide +kernel
theorem dX9_planks_5 : decode cX9_planks 5 = .ok (.ifCond .ne 10, 3) := by decide +kernel
theorem dX9_planks_15 : decode cX9_planks 15 = .ok (.aload_n 0, 1) := by decide +kernel
theorem dX9_planks_16 : decode cX9_planks 16 = .ok (.getfield 9, 3) := by decide +kernel
theorem dX9_planks_19 : decode cX9_planks 19 = .ok (.iload_n 1, 1) := by decide +kernel
theorem dX9_planks_20 : decode cX9_planks 20 = .ok (.aaload, 1) := by decide +kernel
set_option maxRecDepth 20000 in
theorem ggX9_planks_X6_isMissing : GoodIn wsX9_planks wsX6_isMissing := goodIn_r _ [20, 21, 88, 89, 90] (by decide +kernel) (by decide +kernel)
set_option maxRecDepth 20000 in
theorem gX9_planks_X6_isMissing : GoodIn wsX9_planks (wsV RX9 289 RX6 yX6_isMissing wsX6_isMissing) := goodIn_app (goodIn_of _ (by decide +kernel)) ggX9_planks_X6_isMissing
theorem dX9_planks_21 : decode cX9_planks 21 = .ok (.invokevirtual 289, 3) := by decide +kernel
theorem dX9_planks_24 : decode cX9_planks 24 = .ok (.ifCond .eq 11, 3) := by decide +kernel
theorem dX9_planks_35 : decode cX9_planks 35 = .ok (.aload_n 0, 1) := by decide +kernel
theorem dX9_planks_36 : decode cX9_planks 36 = .ok (.getfield 9, 3) := by decide +kernel
theorem dX9_planks_39 : decode cX9_planks 39 = .ok (.iload_n 1, 1) := by decide +kernel
theorem dX9_planks_40 : decode cX9_planks 40 = .ok (.aaload, 1) := by decide +kernel
theorem dX9_planks_41 : decode cX9_planks 41 = .ok (.getfield 286, 3) := by decide +kernel
theorem dX9_planks_44 : decode cX9_planks 44 = .ok (.bipush 8, 2) := by decide +kernel
theorem dX9_planks_46 : decode cX9_planks 46 = .ok (.if_icmp .le 10, 3) := by decide +kernel
theorem dX9_planks_56 : decode cX9_planks 56 = .ok (.aload_n 0, 1) := by decide +kernel
theorem dX9_planks_57 : decode cX9_planks 57 = .ok (.aload_n 0, 1) := by decide +kernel
theorem dX9_planks_58 : decode cX9_planks 58 = .ok (.getfield 9, 3) := by decide +kernel
theorem dX9_planks_61 : decode cX9_planks 61 = .ok (.iload_n 1, 1) := by decide +kernel
theorem dX9_planks_62 : decode cX9_planks 62 = .ok (.aaload, 1) := by decide +kernel
set_option maxRecDepth 20000 in
theorem ggX9_planks_X6_toldFields : GoodIn wsX9_planks wsX6_toldFields := goodIn_r _ [25, 26, 27, 88, 89, 90] (by decide +kernel) (by decide +kernel)
set_option maxRecDepth 20000 in
theorem gX9_planks_X6_toldFields : GoodIn wsX9_planks (wsV RX9 311 RX6 yX6_toldFields wsX6_toldFields) := goodIn_app (goodIn_of _ (by decide +kernel)) ggX9_planks_X6_toldFields
theorem dX9_planks_63 : decode cX9_planks 63 = .ok (.invokevirtual 311, 3) := by decide +kernel
set_option maxRecDepth 20000 in
theorem ggX9_planks_X9_becomeFloor : GoodIn wsX9_planks wsX9_becomeFloor := goodIn_r _ [31, 32, 33, 34, 35, 36, 37, 38, 39, 40, 11, 12, 13, 9, 14, 15, 41, 42, 43, 44, 45, 46, 47, 48, 49, 50, 51, 52, 53, 54, 55, 56, 57, 58, 59, 60, 61, 62, 63, 64, 65, 66, 67, 68, 69, 70, 71, 72, 73, 74, 75, 76, 77, 78, 79, 80, 81, 82, 83, 84, 85, 86, 87, 91, 92, 93, 94, 95, 96, 97, 98, 99, 100] (by decide +kernel) (by decide +kernel)
set_option maxRecDepth 20000 in
theorem gX9_planks_X9_becomeFloor : GoodIn wsX9_planks (wsV RX9 56 RX9 yX9_becomeFloor wsX9_becomeFloor) := goodIn_app (goodIn_of _ (by decide +kernel)) ggX9_planks_X9_becomeFloor
theorem dX9_planks_66 : decode cX9_planks 66 = .ok (.invokevirtual 56, 3) := by decide +kernel
theorem dX9_planks_69 : decode cX9_planks 69 = .ok (.ireturn, 1) := by decide +kernel
theorem dX9_planks_49 : decode cX9_planks 49 = .ok (.aload_n 0, 1) := by decide +kernel
theorem dX9_planks_50 : decode cX9_planks 50 = .ok (.ldc 99, 2) := by decide +kernel
set_option maxRecDepth 20000 in
theorem ggX9_planks_X9_finding : GoodIn wsX9_planks wsX9_finding := goodIn_r _ [14, 15, 77, 78, 79, 80, 81, 82, 83, 84, 85, 86, 87] (by decide +kernel) (by decide +kernel)
set_option maxRecDepth 20000 in
theorem gX9_planks_X9_finding : GoodIn wsX9_planks (wsV RX9 44 RX9 yX9_finding wsX9_finding) := goodIn_app (goodIn_of _ (by decide +kernel)) ggX9_planks_X9_finding
theorem dX9_planks_52 : decode cX9_planks 52 = .ok (.invokevirtual 44, 3) := by decide +kernel
theorem dX9_planks_55 : decode cX9_planks 55 = .ok (.ireturn, 1) := by decide +kernel
theorem dX9_planks_27 : decode cX9_planks 27 = .ok (.aload_n 0, 1) := by decide +kernel
theorem dX9_planks_28 : decode cX9_planks 28 = .ok (.ldc_w 292, 3) := by decide +kernel
theorem dX9_planks_31 : decode cX9_planks 31 = .ok (.invokevirtual 44, 3) := by decide +kernel
theorem dX9_planks_34 : decode cX9_planks 34 = .ok (.ireturn, 1) := by decide +kernel
theorem dX9_planks_8 : decode cX9_planks 8 = .ok (.aload_n 0, 1) := by decide +kernel
theorem dX9_planks_9 : decode cX9_planks 9 = .ok (.ldc 43, 2) := by decide +kernel
theorem dX9_planks_11 : decode cX9_planks 11 = .ok (.invokevirtual 44, 3) := by decide +kernel
theorem dX9_planks_14 : decode cX9_planks 14 = .ok (.ireturn, 1) := by decide +kernel
set_option maxRecDepth 20000 in
theorem ihX9_planks_6 : ∀ w ∈ u_ws RX6 TX6 3, w ∈ wsX9_planks := by decide +kernel
set_option maxRecDepth 20000 in
theorem ihX9_planks_9 : ∀ w ∈ u_ws RX9 TX9 11, w ∈ wsX9_planks := by decide +kernel
set_option maxHeartbeats 4000000 in
set_option maxRecDepth 100000 in
theorem t_X9_planks (l : Launch) (D : va_G) (cy : Nat → ClassId) (a : Nat → Nat) (sz : Nat) (J : Nat → Int64) (I : Nat → Int32) (O : Nat → Option Nat) (R : Nat → Nat → Int32) (RO : Nat → Nat → Option Nat) (LL : va_W) (Y : va_W) (x0 : Int32) (hM : CI a Y I O RO) : Met l yX9_planks wsX9_planks ({ frames := 4, cells := 1, slots := 3, locals := 88 }) (va_Pc [.ref (a 0), .int x0] (PW D cy sz (CT cy a J I O R RO (LL ++ Y)))) (va_Qi (fun r (u : TS) => ∃ (w0 : Int64), ∃ (w1 : Int32), ∃ (w2 : Int32), ∃ (w3 : Option Nat), ∃ (w4 : Nat → Option Nat), ∃ (Y9 : va_W), ((vp_in w1 21) ∧ (layO Y9 w3) ∧ (∀ i, i < 20 → pasO Y9 (w4 i)) ∧ (∀ c, c ∈ Y → c ∈ Y9)) ∧ u = ((va_up J 6 w0), (va_up (va_up I 9 w1) 10 w2), (va_up O 8 w3), R, (va_up RO 2 w4), LL, Y9)) (BW D (va_A (CT cy a J I O R RO (LL ++ Y)) sz) (CTu cy a)) (va_A (CT cy a J I O R RO (LL ++ Y)) sz)) 1 3 (va_A (CT cy a J I O R RO (LL ++ Y)) sz) := by
  refine Met.ofW (cc := cX9_planks) (maxL := 2) (ret := (some .int)) (by decide) rfl ?_
  intro p e s m args below meth c s₁ B hml hv
  obtain ⟨rfl, rfl, hP, hK, hN, hD0⟩ := hv
  have hx := B.exec
  have hb := B.bytes
  have hr := B.returns
  have hts := atoms_spec (ws := wsX9_planks) B.pre
  have hown : s.vm.findClass RX9 = some m.cls := findClass_of_methodNamed B.named
  have hlocks := B.notSynchronized
  have hw0 := hts (.fieldLink RX9 9 "ParquetLayer" "sheets" "[LParquetLayer$Sheet;") (by decide +kernel)
  have hw1 := hts (.fieldLink RX9 286 "ParquetLayer$Sheet" "size" "I") (by decide +kernel)
  have hw2 := hts (.constant RX9 99 (-100003)) (by decide +kernel)
  have hw3 := hts (.constant RX9 292 (-100002)) (by decide +kernel)
  have hw4 := hts (.constant RX9 43 (-100001)) (by decide +kernel)
  have hi6 := ihX9_planks_6
  have hi9 := ihX9_planks_9
  have hD := hD0.self (sz := s.heap.size)
  generalize hAe : va_A (CT cy a J I O R RO (LL ++ Y)) s.heap.size = A at hD ⊢
  have hA : ∀ q : Nat, s.heap.size ≤ q → A q := fun q h => by rw [← hAe]; exact Or.inr h
  have hS : va_S A s.heap s.heap [] := va_S.rf
  have hl := lv_entry ([.ref (a 0), .int x0]) (n := 2) (Nat.le_of_ble_eq_true rfl)
  rw [lg_entry_eq]
  generalize (lg_sl ([.ref (a 0), .int x0]) ++ List.replicate (2 - (lg_sl ([.ref (a 0), .int x0])).length) Slot.unset).toArray = ls at hl ⊢
  have hl : lv_has ls 2 [(0, .ref (a 0)), (1, .int x0)] := hl
  have hRO0 := hM.2.2.2.2.2.2.2.2.1
  have hRO1 := hM.2.2.2.2.2.2.2.2.2.1
  have hRO2 := hM.2.2.2.2.2.2.2.2.2.2.1
  have hRO3 := hM.2.2.2.2.2.2.2.2.2.2.2
  have hP : va_P D vwCl (CT cy a (va_up J 6 (J 6)) (va_up (va_up I 9 (I 9)) 10 (I 10)) (va_up O 8 (O 8)) R (va_up RO 2 (RO 2)) (LL ++ Y)) s.heap := hP
  have hD : va_D A (CT cy a (va_up J 6 (J 6)) (va_up (va_up I 9 (I 9)) 10 (I 10)) (va_up O 8 (O 8)) R (va_up RO 2 (RO 2)) (LL ++ Y)) := hD
  refine lv_aload_n hx hb dX9_planks_0 rfl (lv_at hl 0 rfl) ?_
  refine lv_iload_n hx hb dX9_planks_1 rfl (lv_at hl 1 rfl) ?_
  refine kR_i (As := [.int x0]) (rest := []) (q0 := 0) ⟨hx, hb, hml, hown, hts⟩ (t_X9_isSheet l D cy a _ (va_up J 6 (J 6)) (va_up (va_up I 9 (I 9)) 10 (I 10)) (va_up O 8 (O 8)) R (va_up RO 2 (RO 2)) LL Y x0  ) (cwV 1 hts gX9_planks_X9_isSheet rfl rfl rfl (by decide +kernel) ⟨Nat.le_of_ble_eq_true rfl, Nat.le_of_ble_eq_true rfl⟩) hK hN hP hD rfl rfl rfl hl.1 rfl (Nat.le_of_ble_eq_true rfl) dX9_planks_2 ⟨Nat.le_of_ble_eq_true rfl, Nat.le_of_ble_eq_true rfl⟩ ?_
  refine lv_if_ne (tgt := 15) hx hb dX9_planks_5 (by decide) (fun c_1 => ?_) (fun c_1 => ?_)
  · replace c_1 := bI_t c_1
    refine lv_aload_n hx hb dX9_planks_15 rfl (lv_at hl 0 rfl) ?_
    refine va_get (D := D) (ci := 8) (v := .ref (a 1)) (C := RX9) (T := TX9) (N := 11) hx hb hts hi9 hown hK hP 0 rfl rfl 0 (by decide) hw0 (fun _ h9 => h9) rfl dX9_planks_16 ?_
    refine lv_iload_n hx hb dX9_planks_19 rfl (lv_at hl 1 rfl) ?_
    refine va_aldq hx hb hK hP 1 4 rfl rfl (within_in4 c_1) dX9_planks_20 ?_
    rcases in4 (within_in4 c_1) with hj_2 | hj_2 | hj_2 | hj_2
    · refine wtop_v (y := .ref (a 12)) (by rw [hj_2]; exact congrArg va_rf hRO0) ?_
      refine kRa_i (As := []) (rest := []) (q0 := 12) ⟨hx, hb, hml, hown, hts⟩ (t_X6_isMissing12 l D cy a _ (va_up J 6 (J 6)) (va_up (va_up I 9 (I 9)) 10 (I 10)) (va_up O 8 (O 8)) R (va_up RO 2 (RO 2)) LL Y   ) (cwV 0 hts gX9_planks_X6_isMissing rfl rfl rfl (by decide +kernel) ⟨Nat.le_of_ble_eq_true rfl, Nat.le_of_ble_eq_true rfl⟩) hK hN hP hD rfl rfl rfl hl.1 rfl (Nat.le_of_ble_eq_true rfl) dX9_planks_21 ⟨Nat.le_of_ble_eq_true rfl, Nat.le_of_ble_eq_true rfl⟩ (fun r_3 hr_4 => ?_)
      obtain ⟨zb_5, rfl⟩ := hr_4
      refine lv_if_eq (tgt := 35) hx hb dX9_planks_24 (by decide) (fun c_6 => ?_) (fun c_6 => ?_)
      · replace c_6 := bI_f c_6
        refine lv_aload_n hx hb dX9_planks_35 rfl (lv_at hl 0 rfl) ?_
        refine va_get (D := D) (ci := 8) (v := .ref (a 1)) (C := RX9) (T := TX9) (N := 11) hx hb hts hi9 hown hK hP 0 rfl rfl 0 (by decide) hw0 (fun _ h9 => h9) rfl dX9_planks_36 ?_
        refine lv_iload_n hx hb dX9_planks_39 rfl (lv_at hl 1 rfl) ?_
        refine va_aldq hx hb hK hP 1 4 rfl rfl (within_in4 c_1) dX9_planks_40 ?_
        refine wtop_v (y := .ref (a 12)) (by rw [hj_2]; exact congrArg va_rf hRO0) ?_
        refine va_get (D := D) (ci := 5) (v := .int (I 386)) (C := RX6) (T := TX6) (N := 3) hx hb hts hi6 hown hK hP 12 rfl rfl 2 (by decide) hw1 (fun _ h9 => h9) rfl dX9_planks_41 ?_
        refine lv_bipush (v := 8) hx hb dX9_planks_44 (by decide) ?_
        refine lv_icmp_le (tgt := 56) hx hb dX9_planks_46 (by decide) (fun c_7 => ?_) (fun c_7 => ?_)
        · refine lv_aload_n hx hb dX9_planks_56 rfl (lv_at hl 0 rfl) ?_
          refine lv_aload_n hx hb dX9_planks_57 rfl (lv_at hl 0 rfl) ?_
          refine va_get (D := D) (ci := 8) (v := .ref (a 1)) (C := RX9) (T := TX9) (N := 11) hx hb hts hi9 hown hK hP 0 rfl rfl 0 (by decide) hw0 (fun _ h9 => h9) rfl dX9_planks_58 ?_
          refine lv_iload_n hx hb dX9_planks_61 rfl (lv_at hl 1 rfl) ?_
          refine va_aldq hx hb hK hP 1 4 rfl rfl (within_in4 c_1) dX9_planks_62 ?_
          refine wtop_v (y := .ref (a 12)) (by rw [hj_2]; exact congrArg va_rf hRO0) ?_
          refine kRa_l (As := []) (rest := [.ref (a 0)]) (q0 := 12) ⟨hx, hb, hml, hown, hts⟩ (t_X6_toldFields12 l D cy a _ (va_up J 6 (J 6)) (va_up (va_up I 9 (I 9)) 10 (I 10)) (va_up O 8 (O 8)) R (va_up RO 2 (RO 2)) LL Y   ) (cwV 0 hts gX9_planks_X6_toldFields rfl rfl rfl (by decide +kernel) ⟨Nat.le_of_ble_eq_true rfl, Nat.le_of_ble_eq_true rfl⟩) hK hN hP hD rfl rfl rfl hl.1 rfl (Nat.le_of_ble_eq_true rfl) dX9_planks_63 ⟨Nat.le_of_ble_eq_true rfl, Nat.le_of_ble_eq_true rfl⟩ (fun r_8 hr_9 => ?_)
          refine kM_i (As := [.long r_8]) (rest := []) (q0 := 0) ⟨hx, hb, hml, hown, hts⟩ (t_X9_becomeFloor l D cy a _ (va_up J 6 (J 6)) (va_up (va_up I 9 (I 9)) 10 (I 10)) (va_up O 8 (O 8)) R (va_up RO 2 (RO 2)) LL Y r_8  ⟨hM.1, hM.2.1, hM.2.2.1, hM.2.2.2.1, hM.2.2.2.2.1, hM.2.2.2.2.2.1, hM.2.2.2.2.2.2.1, hM.2.2.2.2.2.2.2.1, hRO0, hRO1, hRO2, hRO3⟩ ) (cwV 1 hts gX9_planks_X9_becomeFloor rfl rfl rfl (by decide +kernel) ⟨Nat.le_of_ble_eq_true rfl, Nat.le_of_ble_eq_true rfl⟩) hK hN hP hD hS hA rfl rfl rfl hl.1 rfl (Nat.le_of_ble_eq_true rfl) dX9_planks_66 ⟨Nat.le_of_ble_eq_true rfl, Nat.le_of_ble_eq_true rfl⟩ (fun r_10 u H locs hw hP hD hS => ?_)
          obtain ⟨w_11, w_12, w_13, w_14, w_15, Y_16, ⟨hi_17, hi_18, hi_19, hs_20⟩, rfl⟩ := hw
          have hi_21 : chO Y_16 (O 7) := chO_mono hs_20 hM.2.1
          have hmono_22 : ∀ c, c ∈ Y → c ∈ Y_16 := fun c h => hs_20 c ((fun _ h => h) c h)
          have hP : va_P D vwCl (CT cy a (va_up J 6 w_11) (va_up (va_up I 9 w_12) 10 w_13) (va_up O 8 w_14) R (va_up RO 2 w_15) (LL ++ Y_16)) H := hP
          have hD : va_D A (CT cy a (va_up J 6 w_11) (va_up (va_up I 9 w_12) 10 w_13) (va_up O 8 w_14) R (va_up RO 2 w_15) (LL ++ Y_16)) := hD
          exact wret_i hx hb hr hlocks ((va_up J 6 w_11), (va_up (va_up I 9 w_12) 10 w_13), (va_up O 8 w_14), R, (va_up RO 2 w_15), LL, Y_16) ⟨w_11, w_12, w_13, w_14, w_15, Y_16, ⟨hi_17, hi_18, hi_19, hmono_22⟩, rfl⟩ hP hD hS dX9_planks_69
        · refine lv_aload_n hx hb dX9_planks_49 rfl (lv_at hl 0 rfl) ?_
          refine lv_ldc (v := (-100003)) hx hb hown hw2 dX9_planks_50 ?_
          refine kM_i (As := [.int (-100003)]) (rest := []) (q0 := 0) ⟨hx, hb, hml, hown, hts⟩ (t_X9_finding l D cy a _ (va_up J 6 (J 6)) (va_up (va_up I 9 (I 9)) 10 (I 10)) (va_up O 8 (O 8)) R (va_up RO 2 (RO 2)) LL Y ((-100003) : Int32)   ) (cwV 1 hts gX9_planks_X9_finding rfl rfl rfl (by decide +kernel) ⟨Nat.le_of_ble_eq_true rfl, Nat.le_of_ble_eq_true rfl⟩) hK hN hP hD hS hA rfl rfl rfl hl.1 rfl (Nat.le_of_ble_eq_true rfl) dX9_planks_52 ⟨Nat.le_of_ble_eq_true rfl, Nat.le_of_ble_eq_true rfl⟩ (fun r_23 u H locs hw hP hD hS => ?_)
          obtain ⟨w_24, rfl, rfl⟩ := hw
          have hP : va_P D vwCl (CT cy a (va_up J 6 (J 6)) (va_up (va_up I 9 (I 9)) 10 w_24) (va_up O 8 (O 8)) R (va_up RO 2 (RO 2)) (LL ++ Y)) H := hP
          have hD : va_D A (CT cy a (va_up J 6 (J 6)) (va_up (va_up I 9 (I 9)) 10 w_24) (va_up O 8 (O 8)) R (va_up RO 2 (RO 2)) (LL ++ Y)) := hD
          refine W.widen (k := 1) (n := 3) (Nat.le_of_ble_eq_true rfl) (Nat.le_of_ble_eq_true rfl) ?_
          exact wret_i hx hb hr hlocks ((va_up J 6 (J 6)), (va_up (va_up I 9 (I 9)) 10 w_24), (va_up O 8 (O 8)), R, (va_up RO 2 (RO 2)), LL, Y) ⟨(J 6), (I 9), w_24, (O 8), (RO 2), Y, ⟨hM.1, hM.2.2.1, hM.2.2.2.1, (fun _ h => h)⟩, rfl⟩ hP hD hS dX9_planks_55
      · replace c_6 := bI_t c_6
        refine lv_aload_n hx hb dX9_planks_27 rfl (lv_at hl 0 rfl) ?_
        refine lv_ldcw (v := (-100002)) hx hb hown hw3 dX9_planks_28 ?_
        refine kM_i (As := [.int (-100002)]) (rest := []) (q0 := 0) ⟨hx, hb, hml, hown, hts⟩ (t_X9_finding l D cy a _ (va_up J 6 (J 6)) (va_up (va_up I 9 (I 9)) 10 (I 10)) (va_up O 8 (O 8)) R (va_up RO 2 (RO 2)) LL Y ((-100002) : Int32)   ) (cwV 1 hts gX9_planks_X9_finding rfl rfl rfl (by decide +kernel) ⟨Nat.le_of_ble_eq_true rfl, Nat.le_of_ble_eq_true rfl⟩) hK hN hP hD hS hA rfl rfl rfl hl.1 rfl (Nat.le_of_ble_eq_true rfl) dX9_planks_31 ⟨Nat.le_of_ble_eq_true rfl, Nat.le_of_ble_eq_true rfl⟩ (fun r_25 u H locs hw hP hD hS => ?_)
        obtain ⟨w_26, rfl, rfl⟩ := hw
        have hP : va_P D vwCl (CT cy a (va_up J 6 (J 6)) (va_up (va_up I 9 (I 9)) 10 w_26) (va_up O 8 (O 8)) R (va_up RO 2 (RO 2)) (LL ++ Y)) H := hP
        have hD : va_D A (CT cy a (va_up J 6 (J 6)) (va_up (va_up I 9 (I 9)) 10 w_26) (va_up O 8 (O 8)) R (va_up RO 2 (RO 2)) (LL ++ Y)) := hD
        refine W.widen (k := 1) (n := 3) (Nat.le_of_ble_eq_true rfl) (Nat.le_of_ble_eq_true rfl) ?_
        exact wret_i hx hb hr hlocks ((va_up J 6 (J 6)), (va_up (va_up I 9 (I 9)) 10 w_26), (va_up O 8 (O 8)), R, (va_up RO 2 (RO 2)), LL, Y) ⟨(J 6), (I 9), w_26, (O 8), (RO 2), Y, ⟨hM.1, hM.2.2.1, hM.2.2.2.1, (fun _ h => h)⟩, rfl⟩ hP hD hS dX9_planks_34
    · refine wtop_v (y := .ref (a 14)) (by rw [hj_2]; exact congrArg va_rf hRO1) ?_
      refine kRa_i (As := []) (rest := []) (q0 := 14) ⟨hx, hb, hml, hown, hts⟩ (t_X6_isMissing14 l D cy a _ (va_up J 6 (J 6)) (va_up (va_up I 9 (I 9)) 10 (I 10)) (va_up O 8 (O 8)) R (va_up RO 2 (RO 2)) LL Y   ) (cwV 0 hts gX9_planks_X6_isMissing rfl rfl rfl (by decide +kernel) ⟨Nat.le_of_ble_eq_true rfl, Nat.le_of_ble_eq_true rfl⟩) hK hN hP hD rfl rfl rfl hl.1 rfl (Nat.le_of_ble_eq_true rfl) dX9_planks_21 ⟨Nat.le_of_ble_eq_true rfl, Nat.le_of_ble_eq_true rfl⟩ (fun r_27 hr_28 => ?_)
      obtain ⟨zb_29, rfl⟩ := hr_28
      refine lv_if_eq (tgt := 35) hx hb dX9_planks_24 (by decide) (fun c_30 => ?_) (fun c_30 => ?_)
      · replace c_30 := bI_f c_30
        refine lv_aload_n hx hb dX9_planks_35 rfl (lv_at hl 0 rfl) ?_
        refine va_get (D := D) (ci := 8) (v := .ref (a 1)) (C := RX9) (T := TX9) (N := 11) hx hb hts hi9 hown hK hP 0 rfl rfl 0 (by decide) hw0 (fun _ h9 => h9) rfl dX9_planks_36 ?_
        refine lv_iload_n hx hb dX9_planks_39 rfl (lv_at hl 1 rfl) ?_
        refine va_aldq hx hb hK hP 1 4 rfl rfl (within_in4 c_1) dX9_planks_40 ?_
        refine wtop_v (y := .ref (a 14)) (by rw [hj_2]; exact congrArg va_rf hRO1) ?_
        refine va_get (D := D) (ci := 5) (v := .int (I 450)) (C := RX6) (T := TX6) (N := 3) hx hb hts hi6 hown hK hP 14 rfl rfl 2 (by decide) hw1 (fun _ h9 => h9) rfl dX9_planks_41 ?_
        refine lv_bipush (v := 8) hx hb dX9_planks_44 (by decide) ?_
        refine lv_icmp_le (tgt := 56) hx hb dX9_planks_46 (by decide) (fun c_31 => ?_) (fun c_31 => ?_)
        · refine lv_aload_n hx hb dX9_planks_56 rfl (lv_at hl 0 rfl) ?_
          refine lv_aload_n hx hb dX9_planks_57 rfl (lv_at hl 0 rfl) ?_
          refine va_get (D := D) (ci := 8) (v := .ref (a 1)) (C := RX9) (T := TX9) (N := 11) hx hb hts hi9 hown hK hP 0 rfl rfl 0 (by decide) hw0 (fun _ h9 => h9) rfl dX9_planks_58 ?_
          refine lv_iload_n hx hb dX9_planks_61 rfl (lv_at hl 1 rfl) ?_
          refine va_aldq hx hb hK hP 1 4 rfl rfl (within_in4 c_1) dX9_planks_62 ?_
          refine wtop_v (y := .ref (a 14)) (by rw [hj_2]; exact congrArg va_rf hRO1) ?_
          refine kRa_l (As := []) (rest := [.ref (a 0)]) (q0 := 14) ⟨hx, hb, hml, hown, hts⟩ (t_X6_toldFields14 l D cy a _ (va_up J 6 (J 6)) (va_up (va_up I 9 (I 9)) 10 (I 10)) (va_up O 8 (O 8)) R (va_up RO 2 (RO 2)) LL Y   ) (cwV 0 hts gX9_planks_X6_toldFields rfl rfl rfl (by decide +kernel) ⟨Nat.le_of_ble_eq_true rfl, Nat.le_of_ble_eq_true rfl⟩) hK hN hP hD rfl rfl rfl hl.1 rfl (Nat.le_of_ble_eq_true rfl) dX9_planks_63 ⟨Nat.le_of_ble_eq_true rfl, Nat.le_of_ble_eq_true rfl⟩ (fun r_32 hr_33 => ?_)
          refine kM_i (As := [.long r_32]) (rest := []) (q0 := 0) ⟨hx, hb, hml, hown, hts⟩ (t_X9_becomeFloor l D cy a _ (va_up J 6 (J 6)) (va_up (va_up I 9 (I 9)) 10 (I 10)) (va_up O 8 (O 8)) R (va_up RO 2 (RO 2)) LL Y r_32  ⟨hM.1, hM.2.1, hM.2.2.1, hM.2.2.2.1, hM.2.2.2.2.1, hM.2.2.2.2.2.1, hM.2.2.2.2.2.2.1, hM.2.2.2.2.2.2.2.1, hRO0, hRO1, hRO2, hRO3⟩ ) (cwV 1 hts gX9_planks_X9_becomeFloor rfl rfl rfl (by decide +kernel) ⟨Nat.le_of_ble_eq_true rfl, Nat.le_of_ble_eq_true rfl⟩) hK hN hP hD hS hA rfl rfl rfl hl.1 rfl (Nat.le_of_ble_eq_true rfl) dX9_planks_66 ⟨Nat.le_of_ble_eq_true rfl, Nat.le_of_ble_eq_true rfl⟩ (fun r_34 u H locs hw hP hD hS => ?_)
          obtain ⟨w_35, w_36, w_37, w_38, w_39, Y_40, ⟨hi_41, hi_42, hi_43, hs_44⟩, rfl⟩ := hw
          have hi_45 : chO Y_40 (O 7) := chO_mono hs_44 hM.2.1
          have hmono_46 : ∀ c, c ∈ Y → c ∈ Y_40 := fun c h => hs_44 c ((fun _ h => h) c h)
          have hP : va_P D vwCl (CT cy a (va_up J 6 w_35) (va_up (va_up I 9 w_36) 10 w_37) (va_up O 8 w_38) R (va_up RO 2 w_39) (LL ++ Y_40)) H := hP
          have hD : va_D A (CT cy a (va_up J 6 w_35) (va_up (va_up I 9 w_36) 10 w_37) (va_up O 8 w_38) R (va_up RO 2 w_39) (LL ++ Y_40)) := hD
          exact wret_i hx hb hr hlocks ((va_up J 6 w_35), (va_up (va_up I 9 w_36) 10 w_37), (va_up O 8 w_38), R, (va_up RO 2 w_39), LL, Y_40) ⟨w_35, w_36, w_37, w_38, w_39, Y_40, ⟨hi_41, hi_42, hi_43, hmono_46⟩, rfl⟩ hP hD hS dX9_planks_69
        · refine lv_aload_n hx hb dX9_planks_49 rfl (lv_at hl 0 rfl) ?_
          refine lv_ldc (v := (-100003)) hx hb hown hw2 dX9_planks_50 ?_
          refine kM_i (As := [.int (-100003)]) (rest := []) (q0 := 0) ⟨hx, hb, hml, hown, hts⟩ (t_X9_finding l D cy a _ (va_up J 6 (J 6)) (va_up (va_up I 9 (I 9)) 10 (I 10)) (va_up O 8 (O 8)) R (va_up RO 2 (RO 2)) LL Y ((-100003) : Int32)   ) (cwV 1 hts gX9_planks_X9_finding rfl rfl rfl (by decide +kernel) ⟨Nat.le_of_ble_eq_true rfl, Nat.le_of_ble_eq_true rfl⟩) hK hN hP hD hS hA rfl rfl rfl hl.1 rfl (Nat.le_of_ble_eq_true rfl) dX9_planks_52 ⟨Nat.le_of_ble_eq_true rfl, Nat.le_of_ble_eq_true rfl⟩ (fun r_47 u H locs hw hP hD hS => ?_)
          obtain ⟨w_48, rfl, rfl⟩ := hw
          have hP : va_P D vwCl (CT cy a (va_up J 6 (J 6)) (va_up (va_up I 9 (I 9)) 10 w_48) (va_up O 8 (O 8)) R (va_up RO 2 (RO 2)) (LL ++ Y)) H := hP
          have hD : va_D A (CT cy a (va_up J 6 (J 6)) (va_up (va_up I 9 (I 9)) 10 w_48) (va_up O 8 (O 8)) R (va_up RO 2 (RO 2)) (LL ++ Y)) := hD
          refine W.widen (k := 1) (n := 3) (Nat.le_of_ble_eq_true rfl) (Nat.le_of_ble_eq_true rfl) ?_
          exact wret_i hx hb hr hlocks ((va_up J 6 (J 6)), (va_up (va_up I 9 (I 9)) 10 w_48), (va_up O 8 (O 8)), R, (va_up RO 2 (RO 2)), LL, Y) ⟨(J 6), (I 9), w_48, (O 8), (RO 2), Y, ⟨hM.1, hM.2.2.1, hM.2.2.2.1, (fun _ h => h)⟩, rfl⟩ hP hD hS dX9_planks_55
      · replace c_30 := bI_t c_30
        refine lv_aload_n hx hb dX9_planks_27 rfl (lv_at hl 0 rfl) ?_
        refine lv_ldcw (v := (-100002)) hx hb hown hw3 dX9_planks_28 ?_
        refine kM_i (As := [.int (-100002)]) (rest := []) (q0 := 0) ⟨hx, hb, hml, hown, hts⟩ (t_X9_finding l D cy a _ (va_up J 6 (J 6)) (va_up (va_up I 9 (I 9)) 10 (I 10)) (va_up O 8 (O 8)) R (va_up RO 2 (RO 2)) LL Y ((-100002) : Int32)   ) (cwV 1 hts gX9_planks_X9_finding rfl rfl rfl (by decide +kernel) ⟨Nat.le_of_ble_eq_true rfl, Nat.le_of_ble_eq_true rfl⟩) hK hN hP hD hS hA rfl rfl rfl hl.1 rfl (Nat.le_of_ble_eq_true rfl) dX9_planks_31 ⟨Nat.le_of_ble_eq_true rfl, Nat.le_of_ble_eq_true rfl⟩ (fun r_49 u H locs hw hP hD hS => ?_)
        obtain ⟨w_50, rfl, rfl⟩ := hw
        have hP : va_P D vwCl (CT cy a (va_up J 6 (J 6)) (va_up (va_up I 9 (I 9)) 10 w_50) (va_up O 8 (O 8)) R (va_up RO 2 (RO 2)) (LL ++ Y)) H := hP
        have hD : va_D A (CT cy a (va_up J 6 (J 6)) (va_up (va_up I 9 (I 9)) 10 w_50) (va_up O 8 (O 8)) R (va_up RO 2 (RO 2)) (LL ++ Y)) := hD
        refine W.widen (k := 1) (n := 3) (Nat.le_of_ble_eq_true rfl) (Nat.le_of_ble_eq_true rfl) ?_
        exact wret_i hx hb hr hlocks ((va_up J 6 (J 6)), (va_up (va_up I 9 (I 9)) 10 w_50), (va_up O 8 (O 8)), R, (va_up RO 2 (RO 2)), LL, Y) ⟨(J 6), (I 9), w_50, (O 8), (RO 2), Y, ⟨hM.1, hM.2.2.1, hM.2.2.2.1, (fun _ h => h)⟩, rfl⟩ hP hD hS dX9_planks_34
    · refine wtop_v (y := .ref (a 16)) (by rw [hj_2]; exact congrArg va_rf hRO2) ?_
      refine kRa_i (As := []) (rest := []) (q0 := 16) ⟨hx, hb, hml, hown, hts⟩ (t_X6_isMissing16 l D cy a _ (va_up J 6 (J 6)) (va_up (va_up I 9 (I 9)) 10 (I 10)) (va_up O 8 (O 8)) R (va_up RO 2 (RO 2)) LL Y   ) (cwV 0 hts gX9_planks_X6_isMissing rfl rfl rfl (by decide +kernel) ⟨Nat.le_of_ble_eq_true rfl, Nat.le_of_ble_eq_true rfl⟩) hK hN hP hD rfl rfl rfl hl.1 rfl (Nat.le_of_ble_eq_true rfl) dX9_planks_21 ⟨Nat.le_of_ble_eq_true rfl, Nat.le_of_ble_eq_true rfl⟩ (fun r_51 hr_52 => ?_)
      obtain ⟨zb_53, rfl⟩ := hr_52
      refine lv_if_eq (tgt := 35) hx hb dX9_planks_24 (by decide) (fun c_54 => ?_) (fun c_54 => ?_)
      · replace c_54 := bI_f c_54
        refine lv_aload_n hx hb dX9_planks_35 rfl (lv_at hl 0 rfl) ?_
        refine va_get (D := D) (ci := 8) (v := .ref (a 1)) (C := RX9) (T := TX9) (N := 11) hx hb hts hi9 hown hK hP 0 rfl rfl 0 (by decide) hw0 (fun _ h9 => h9) rfl dX9_planks_36 ?_
        refine lv_iload_n hx hb dX9_planks_39 rfl (lv_at hl 1 rfl) ?_
        refine va_aldq hx hb hK hP 1 4 rfl rfl (within_in4 c_1) dX9_planks_40 ?_
        refine wtop_v (y := .ref (a 16)) (by rw [hj_2]; exact congrArg va_rf hRO2) ?_
        refine va_get (D := D) (ci := 5) (v := .int (I 514)) (C := RX6) (T := TX6) (N := 3) hx hb hts hi6 hown hK hP 16 rfl rfl 2 (by decide) hw1 (fun _ h9 => h9) rfl dX9_planks_41 ?_
        refine lv_bipush (v := 8) hx hb dX9_planks_44 (by decide) ?_
        refine lv_icmp_le (tgt := 56) hx hb dX9_planks_46 (by decide) (fun c_55 => ?_) (fun c_55 => ?_)
        · refine lv_aload_n hx hb dX9_planks_56 rfl (lv_at hl 0 rfl) ?_
          refine lv_aload_n hx hb dX9_planks_57 rfl (lv_at hl 0 rfl) ?_
          refine va_get (D := D) (ci := 8) (v := .ref (a 1)) (C := RX9) (T := TX9) (N := 11) hx hb hts hi9 hown hK hP 0 rfl rfl 0 (by decide) hw0 (fun _ h9 => h9) rfl dX9_planks_58 ?_
          refine lv_iload_n hx hb dX9_planks_61 rfl (lv_at hl 1 rfl) ?_
          refine va_aldq hx hb hK hP 1 4 rfl rfl (within_in4 c_1) dX9_planks_62 ?_
          refine wtop_v (y := .ref (a 16)) (by rw [hj_2]; exact congrArg va_rf hRO2) ?_
          refine kRa_l (As := []) (rest := [.ref (a 0)]) (q0 := 16) ⟨hx, hb, hml, hown, hts⟩ (t_X6_toldFields16 l D cy a _ (va_up J 6 (J 6)) (va_up (va_up I 9 (I 9)) 10 (I 10)) (va_up O 8 (O 8)) R (va_up RO 2 (RO 2)) LL Y   ) (cwV 0 hts gX9_planks_X6_toldFields rfl rfl rfl (by decide +kernel) ⟨Nat.le_of_ble_eq_true rfl, Nat.le_of_ble_eq_true rfl⟩) hK hN hP hD rfl rfl rfl hl.1 rfl (Nat.le_of_ble_eq_true rfl) dX9_planks_63 ⟨Nat.le_of_ble_eq_true rfl, Nat.le_of_ble_eq_true rfl⟩ (fun r_56 hr_57 => ?_)
          refine kM_i (As := [.long r_56]) (rest := []) (q0 := 0) ⟨hx, hb, hml, hown, hts⟩ (t_X9_becomeFloor l D cy a _ (va_up J 6 (J 6)) (va_up (va_up I 9 (I 9)) 10 (I 10)) (va_up O 8 (O 8)) R (va_up RO 2 (RO 2)) LL Y r_56  ⟨hM.1, hM.2.1, hM.2.2.1, hM.2.2.2.1, hM.2.2.2.2.1, hM.2.2.2.2.2.1, hM.2.2.2.2.2.2.1, hM.2.2.2.2.2.2.2.1, hRO0, hRO1, hRO2, hRO3⟩ ) (cwV 1 hts gX9_planks_X9_becomeFloor rfl rfl rfl (by decide +kernel) ⟨Nat.le_of_ble_eq_true rfl, Nat.le_of_ble_eq_true rfl⟩) hK hN hP hD hS hA rfl rfl rfl hl.1 rfl (Nat.le_of_ble_eq_true rfl) dX9_planks_66 ⟨Nat.le_of_ble_eq_true rfl, Nat.le_of_ble_eq_true rfl⟩ (fun r_58 u H locs hw hP hD hS => ?_)
          obtain ⟨w_59, w_60, w_61, w_62, w_63, Y_64, ⟨hi_65, hi_66, hi_67, hs_68⟩, rfl⟩ := hw
          have hi_69 : chO Y_64 (O 7) := chO_mono hs_68 hM.2.1
          have hmono_70 : ∀ c, c ∈ Y → c ∈ Y_64 := fun c h => hs_68 c ((fun _ h => h) c h)
          have hP : va_P D vwCl (CT cy a (va_up J 6 w_59) (va_up (va_up I 9 w_60) 10 w_61) (va_up O 8 w_62) R (va_up RO 2 w_63) (LL ++ Y_64)) H := hP
          have hD : va_D A (CT cy a (va_up J 6 w_59) (va_up (va_up I 9 w_60) 10 w_61) (va_up O 8 w_62) R (va_up RO 2 w_63) (LL ++ Y_64)) := hD
          exact wret_i hx hb hr hlocks ((va_up J 6 w_59), (va_up (va_up I 9 w_60) 10 w_61), (va_up O 8 w_62), R, (va_up RO 2 w_63), LL, Y_64) ⟨w_59, w_60, w_61, w_62, w_63, Y_64, ⟨hi_65, hi_66, hi_67, hmono_70⟩, rfl⟩ hP hD hS dX9_planks_69
        · refine lv_aload_n hx hb dX9_planks_49 rfl (lv_at hl 0 rfl) ?_
          refine lv_ldc (v := (-100003)) hx hb hown hw2 dX9_planks_50 ?_
          refine kM_i (As := [.int (-100003)]) (rest := []) (q0 := 0) ⟨hx, hb, hml, hown, hts⟩ (t_X9_finding l D cy a _ (va_up J 6 (J 6)) (va_up (va_up I 9 (I 9)) 10 (I 10)) (va_up O 8 (O 8)) R (va_up RO 2 (RO 2)) LL Y ((-100003) : Int32)   ) (cwV 1 hts gX9_planks_X9_finding rfl rfl rfl (by decide +kernel) ⟨Nat.le_of_ble_eq_true rfl, Nat.le_of_ble_eq_true rfl⟩) hK hN hP hD hS hA rfl rfl rfl hl.1 rfl (Nat.le_of_ble_eq_true rfl) dX9_planks_52 ⟨Nat.le_of_ble_eq_true rfl, Nat.le_of_ble_eq_true rfl⟩ (fun r_71 u H locs hw hP hD hS => ?_)
          obtain ⟨w_72, rfl, rfl⟩ := hw
          have hP : va_P D vwCl (CT cy a (va_up J 6 (J 6)) (va_up (va_up I 9 (I 9)) 10 w_72) (va_up O 8 (O 8)) R (va_up RO 2 (RO 2)) (LL ++ Y)) H := hP
          have hD : va_D A (CT cy a (va_up J 6 (J 6)) (va_up (va_up I 9 (I 9)) 10 w_72) (va_up O 8 (O 8)) R (va_up RO 2 (RO 2)) (LL ++ Y)) := hD
          refine W.widen (k := 1) (n := 3) (Nat.le_of_ble_eq_true rfl) (Nat.le_of_ble_eq_true rfl) ?_
          exact wret_i hx hb hr hlocks ((va_up J 6 (J 6)), (va_up (va_up I 9 (I 9)) 10 w_72), (va_up O 8 (O 8)), R, (va_up RO 2 (RO 2)), LL, Y) ⟨(J 6), (I 9), w_72, (O 8), (RO 2), Y, ⟨hM.1, hM.2.2.1, hM.2.2.2.1, (fun _ h => h)⟩, rfl⟩ hP hD hS dX9_planks_55
      · replace c_54 := bI_t c_54
        refine lv_aload_n hx hb dX9_planks_27 rfl (lv_at hl 0 rfl) ?_
        refine lv_ldcw (v := (-100002)) hx hb hown hw3 dX9_planks_28 ?_
        refine kM_i (As := [.int (-100002)]) (rest := []) (q0 := 0) ⟨hx, hb, hml, hown, hts⟩ (t_X9_finding l D cy a _ (va_up J 6 (J 6)) (va_up (va_up I 9 (I 9)) 10 (I 10)) (va_up O 8 (O 8)) R (va_up RO 2 (RO 2)) LL Y ((-100002) : Int32)   ) (cwV 1 hts gX9_planks_X9_finding rfl rfl rfl (by decide +kernel) ⟨Nat.le_of_ble_eq_true rfl, Nat.le_of_ble_eq_true rfl⟩) hK hN hP hD hS hA rfl rfl rfl hl.1 rfl (Nat.le_of_ble_eq_true rfl) dX9_planks_31 ⟨Nat.le_of_ble_eq_true rfl, Nat.le_of_ble_eq_true rfl⟩ (fun r_73 u H locs hw hP hD hS => ?_)
        obtain ⟨w_74, rfl, rfl⟩ := hw
        have hP : va_P D vwCl (CT cy a (va_up J 6 (J 6)) (va_up (va_up I 9 (I 9)) 10 w_74) (va_up O 8 (O 8)) R (va_up RO 2 (RO 2)) (LL ++ Y)) H := hP
        have hD : va_D A (CT cy a (va_up J 6 (J 6)) (va_up (va_up I 9 (I 9)) 10 w_74) (va_up O 8 (O 8)) R (va_up RO 2 (RO 2)) (LL ++ Y)) := hD
        refine W.widen (k := 1) (n := 3) (Nat.le_of_ble_eq_true rfl) (Nat.le_of_ble_eq_true rfl) ?_
        exact wret_i hx hb hr hlocks ((va_up J 6 (J 6)), (va_up (va_up I 9 (I 9)) 10 w_74), (va_up O 8 (O 8)), R, (va_up RO 2 (RO 2)), LL, Y) ⟨(J 6), (I 9), w_74, (O 8), (RO 2), Y, ⟨hM.1, hM.2.2.1, hM.2.2.2.1, (fun _ h => h)⟩, rfl⟩ hP hD hS dX9_planks_34
    · refine wtop_v (y := .ref (a 18)) (by rw [hj_2]; exact congrArg va_rf hRO3) ?_
      refine kRa_i (As := []) (rest := []) (q0 := 18) ⟨hx, hb, hml, hown, hts⟩ (t_X6_isMissing18 l D cy a _ (va_up J 6 (J 6)) (va_up (va_up I 9 (I 9)) 10 (I 10)) (va_up O 8 (O 8)) R (va_up RO 2 (RO 2)) LL Y   ) (cwV 0 hts gX9_planks_X6_isMissing rfl rfl rfl (by decide +kernel) ⟨Nat.le_of_ble_eq_true rfl, Nat.le_of_ble_eq_true rfl⟩) hK hN hP hD rfl rfl rfl hl.1 rfl (Nat.le_of_ble_eq_true rfl) dX9_planks_21 ⟨Nat.le_of_ble_eq_true rfl, Nat.le_of_ble_eq_true rfl⟩ (fun r_75 hr_76 => ?_)
      obtain ⟨zb_77, rfl⟩ := hr_76
      refine lv_if_eq (tgt := 35) hx hb dX9_planks_24 (by decide) (fun c_78 => ?_) (fun c_78 => ?_)
      · replace c_78 := bI_f c_78
        refine lv_aload_n hx hb dX9_planks_35 rfl (lv_at hl 0 rfl) ?_
        refine va_get (D := D) (ci := 8) (v := .ref (a 1)) (C := RX9) (T := TX9) (N := 11) hx hb hts hi9 hown hK hP 0 rfl rfl 0 (by decide) hw0 (fun _ h9 => h9) rfl dX9_planks_36 ?_
        refine lv_iload_n hx hb dX9_planks_39 rfl (lv_at hl 1 rfl) ?_
        refine va_aldq hx hb hK hP 1 4 rfl rfl (within_in4 c_1) dX9_planks_40 ?_
        refine wtop_v (y := .ref (a 18)) (by rw [hj_2]; exact congrArg va_rf hRO3) ?_
        refine va_get (D := D) (ci := 5) (v := .int (I 578)) (C := RX6) (T := TX6) (N := 3) hx hb hts hi6 hown hK hP 18 rfl rfl 2 (by decide) hw1 (fun _ h9 => h9) rfl dX9_planks_41 ?_
        refine lv_bipush (v := 8) hx hb dX9_planks_44 (by decide) ?_
        refine lv_icmp_le (tgt := 56) hx hb dX9_planks_46 (by decide) (fun c_79 => ?_) (fun c_79 => ?_)
        · refine lv_aload_n hx hb dX9_planks_56 rfl (lv_at hl 0 rfl) ?_
          refine lv_aload_n hx hb dX9_planks_57 rfl (lv_at hl 0 rfl) ?_
          refine va_get (D := D) (ci := 8) (v := .ref (a 1)) (C := RX9) (T := TX9) (N := 11) hx hb hts hi9 hown hK hP 0 rfl rfl 0 (by decide) hw0 (fun _ h9 => h9) rfl dX9_planks_58 ?_
          refine lv_iload_n hx hb dX9_planks_61 rfl (lv_at hl 1 rfl) ?_
          refine va_aldq hx hb hK hP 1 4 rfl rfl (within_in4 c_1) dX9_planks_62 ?_
          refine wtop_v (y := .ref (a 18)) (by rw [hj_2]; exact congrArg va_rf hRO3) ?_
          refine kRa_l (As := []) (rest := [.ref (a 0)]) (q0 := 18) ⟨hx, hb, hml, hown, hts⟩ (t_X6_toldFields18 l D cy a _ (va_up J 6 (J 6)) (va_up (va_up I 9 (I 9)) 10 (I 10)) (va_up O 8 (O 8)) R (va_up RO 2 (RO 2)) LL Y   ) (cwV 0 hts gX9_planks_X6_toldFields rfl rfl rfl (by decide +kernel) ⟨Nat.le_of_ble_eq_true rfl, Nat.le_of_ble_eq_true rfl⟩) hK hN hP hD rfl rfl rfl hl.1 rfl (Nat.le_of_ble_eq_true rfl) dX9_planks_63 ⟨Nat.le_of_ble_eq_true rfl, Nat.le_of_ble_eq_true rfl⟩ (fun r_80 hr_81 => ?_)
          refine kM_i (As := [.long r_80]) (rest := []) (q0 := 0) ⟨hx, hb, hml, hown, hts⟩ (t_X9_becomeFloor l D cy a _ (va_up J 6 (J 6)) (va_up (va_up I 9 (I 9)) 10 (I 10)) (va_up O 8 (O 8)) R (va_up RO 2 (RO 2)) LL Y r_80  ⟨hM.1, hM.2.1, hM.2.2.1, hM.2.2.2.1, hM.2.2.2.2.1, hM.2.2.2.2.2.1, hM.2.2.2.2.2.2.1, hM.2.2.2.2.2.2.2.1, hRO0, hRO1, hRO2, hRO3⟩ ) (cwV 1 hts gX9_planks_X9_becomeFloor rfl rfl rfl (by decide +kernel) ⟨Nat.le_of_ble_eq_true rfl, Nat.le_of_ble_eq_true rfl⟩) hK hN hP hD hS hA rfl rfl rfl hl.1 rfl (Nat.le_of_ble_eq_true rfl) dX9_planks_66 ⟨Nat.le_of_ble_eq_true rfl, Nat.le_of_ble_eq_true rfl⟩ (fun r_82 u H locs hw hP hD hS => ?_)
          obtain ⟨w_83, w_84, w_85, w_86, w_87, Y_88, ⟨hi_89, hi_90, hi_91, hs_92⟩, rfl⟩ := hw
          have hi_93 : chO Y_88 (O 7) := chO_mono hs_92 hM.2.1
          have hmono_94 : ∀ c, c ∈ Y → c ∈ Y_88 := fun c h => hs_92 c ((fun _ h => h) c h)
          have hP : va_P D vwCl (CT cy a (va_up J 6 w_83) (va_up (va_up I 9 w_84) 10 w_85) (va_up O 8 w_86) R (va_up RO 2 w_87) (LL ++ Y_88)) H := hP
          have hD : va_D A (CT cy a (va_up J 6 w_83) (va_up (va_up I 9 w_84) 10 w_85) (va_up O 8 w_86) R (va_up RO 2 w_87) (LL ++ Y_88)) := hD
          exact wret_i hx hb hr hlocks ((va_up J 6 w_83), (va_up (va_up I 9 w_84) 10 w_85), (va_up O 8 w_86), R, (va_up RO 2 w_87), LL, Y_88) ⟨w_83, w_84, w_85, w_86, w_87, Y_88, ⟨hi_89, hi_90, hi_91, hmono_94⟩, rfl⟩ hP hD hS dX9_planks_69
        · refine lv_aload_n hx hb dX9_planks_49 rfl (lv_at hl 0 rfl) ?_
          refine lv_ldc (v := (-100003)) hx hb hown hw2 dX9_planks_50 ?_
          refine kM_i (As := [.int (-100003)]) (rest := []) (q0 := 0) ⟨hx, hb, hml, hown, hts⟩ (t_X9_finding l D cy a _ (va_up J 6 (J 6)) (va_up (va_up I 9 (I 9)) 10 (I 10)) (va_up O 8 (O 8)) R (va_up RO 2 (RO 2)) LL Y ((-100003) : Int32)   ) (cwV 1 hts gX9_planks_X9_finding rfl rfl rfl (by decide +kernel) ⟨Nat.le_of_ble_eq_true rfl, Nat.le_of_ble_eq_true rfl⟩) hK hN hP hD hS hA rfl rfl rfl hl.1 rfl (Nat.le_of_ble_eq_true rfl) dX9_planks_52 ⟨Nat.le_of_ble_eq_true rfl, Nat.le_of_ble_eq_true rfl⟩ (fun r_95 u H locs hw hP hD hS => ?_)
          obtain ⟨w_96, rfl, rfl⟩ := hw
          have hP : va_P D vwCl (CT cy a (va_up J 6 (J 6)) (va_up (va_up I 9 (I 9)) 10 w_96) (va_up O 8 (O 8)) R (va_up RO 2 (RO 2)) (LL ++ Y)) H := hP
          have hD : va_D A (CT cy a (va_up J 6 (J 6)) (va_up (va_up I 9 (I 9)) 10 w_96) (va_up O 8 (O 8)) R (va_up RO 2 (RO 2)) (LL ++ Y)) := hD
          refine W.widen (k := 1) (n := 3) (Nat.le_of_ble_eq_true rfl) (Nat.le_of_ble_eq_true rfl) ?_
          exact wret_i hx hb hr hlocks ((va_up J 6 (J 6)), (va_up (va_up I 9 (I 9)) 10 w_96), (va_up O 8 (O 8)), R, (va_up RO 2 (RO 2)), LL, Y) ⟨(J 6), (I 9), w_96, (O 8), (RO 2), Y, ⟨hM.1, hM.2.2.1, hM.2.2.2.1, (fun _ h => h)⟩, rfl⟩ hP hD hS dX9_planks_55
      · replace c_78 := bI_t c_78
        refine lv_aload_n hx hb dX9_planks_27 rfl (lv_at hl 0 rfl) ?_
        refine lv_ldcw (v := (-100002)) hx hb hown hw3 dX9_planks_28 ?_
        refine kM_i (As := [.int (-100002)]) (rest := []) (q0 := 0) ⟨hx, hb, hml, hown, hts⟩ (t_X9_finding l D cy a _ (va_up J 6 (J 6)) (va_up (va_up I 9 (I 9)) 10 (I 10)) (va_up O 8 (O 8)) R (va_up RO 2 (RO 2)) LL Y ((-100002) : Int32)   ) (cwV 1 hts gX9_planks_X9_finding rfl rfl rfl (by decide +kernel) ⟨Nat.le_of_ble_eq_true rfl, Nat.le_of_ble_eq_true rfl⟩) hK hN hP hD hS hA rfl rfl rfl hl.1 rfl (Nat.le_of_ble_eq_true rfl) dX9_planks_31 ⟨Nat.le_of_ble_eq_true rfl, Nat.le_of_ble_eq_true rfl⟩ (fun r_97 u H locs hw hP hD hS => ?_)
        obtain ⟨w_98, rfl, rfl⟩ := hw
        have hP : va_P D vwCl (CT cy a (va_up J 6 (J 6)) (va_up (va_up I 9 (I 9)) 10 w_98) (va_up O 8 (O 8)) R (va_up RO 2 (RO 2)) (LL ++ Y)) H := hP
        have hD : va_D A (CT cy a (va_up J 6 (J 6)) (va_up (va_up I 9 (I 9)) 10 w_98) (va_up O 8 (O 8)) R (va_up RO 2 (RO 2)) (LL ++ Y)) := hD
        refine W.widen (k := 1) (n := 3) (Nat.le_of_ble_eq_true rfl) (Nat.le_of_ble_eq_true rfl) ?_
        exact wret_i hx hb hr hlocks ((va_up J 6 (J 6)), (va_up (va_up I 9 (I 9)) 10 w_98), (va_up O 8 (O 8)), R, (va_up RO 2 (RO 2)), LL, Y) ⟨(J 6), (I 9), w_98, (O 8), (RO 2), Y, ⟨hM.1, hM.2.2.1, hM.2.2.2.1, (fun _ h => h)⟩, rfl⟩ hP hD hS dX9_planks_34
  · replace c_1 := bI_f c_1
    refine lv_aload_n hx hb dX9_planks_8 rfl (lv_at hl 0 rfl) ?_
    refine lv_ldc (v := (-100001)) hx hb hown hw4 dX9_planks_9 ?_
    refine kM_i (As := [.int (-100001)]) (rest := []) (q0 := 0) ⟨hx, hb, hml, hown, hts⟩ (t_X9_finding l D cy a _ (va_up J 6 (J 6)) (va_up (va_up I 9 (I 9)) 10 (I 10)) (va_up O 8 (O 8)) R (va_up RO 2 (RO 2)) LL Y ((-100001) : Int32)   ) (cwV 1 hts gX9_planks_X9_finding rfl rfl rfl (by decide +kernel) ⟨Nat.le_of_ble_eq_true rfl, Nat.le_of_ble_eq_true rfl⟩) hK hN hP hD hS hA rfl rfl rfl hl.1 rfl (Nat.le_of_ble_eq_true rfl) dX9_planks_11 ⟨Nat.le_of_ble_eq_true rfl, Nat.le_of_ble_eq_true rfl⟩ (fun r_99 u H locs hw hP hD hS => ?_)
    obtain ⟨w_100, rfl, rfl⟩ := hw
    have hP : va_P D vwCl (CT cy a (va_up J 6 (J 6)) (va_up (va_up I 9 (I 9)) 10 w_100) (va_up O 8 (O 8)) R (va_up RO 2 (RO 2)) (LL ++ Y)) H := hP
    have hD : va_D A (CT cy a (va_up J 6 (J 6)) (va_up (va_up I 9 (I 9)) 10 w_100) (va_up O 8 (O 8)) R (va_up RO 2 (RO 2)) (LL ++ Y)) := hD
    refine W.widen (k := 1) (n := 3) (Nat.le_of_ble_eq_true rfl) (Nat.le_of_ble_eq_true rfl) ?_
    exact wret_i hx hb hr hlocks ((va_up J 6 (J 6)), (va_up (va_up I 9 (I 9)) 10 w_100), (va_up O 8 (O 8)), R, (va_up RO 2 (RO 2)), LL, Y) ⟨(J 6), (I 9), w_100, (O 8), (RO 2), Y, ⟨hM.1, hM.2.2.1, hM.2.2.2.1, (fun _ h => h)⟩, rfl⟩ hP hD hS dX9_planks_14
